/-! the methods with loops, and what calls them (wip/p57/gen/gen18.py) -/
theorem i172_0 : zi 172 0 1 2 0 0 := by decide +kernel
theorem i172_1 : zi 172 1 2 6 11 8 := by decide +kernel
theorem i172_2 : zi 172 2 3 1 3 0 := by decide +kernel
theorem i172_3 : zi 172 3 4 21 26 3 := by decide +kernel
theorem na_26 : z_na 26 = 1 := by decide +kernel
theorem i172_4 : zi 172 4 5 22 185 0 := by decide +kernel
theorem i172_5 : zi 172 5 6 1 2 0 := by decide +kernel
theorem i172_6 : zi 172 6 7 22 192 0 := by decide +kernel
theorem i172_7 : zi 172 7 8 22 186 0 := by decide +kernel
theorem i172_8 : zi 172 8 9 2 0 0 := by decide +kernel
theorem i172_9 : zi 172 9 10 6 11 8 := by decide +kernel
theorem i172_10 : zi 172 10 11 1 3 0 := by decide +kernel
theorem i172_11 : zi 172 11 12 21 28 3 := by decide +kernel
theorem i172_12 : zi 172 12 13 3 4 0 := by decide +kernel
theorem i172_13 : zi 172 13 14 2 0 0 := by decide +kernel
theorem i172_14 : zi 172 14 15 1 1 0 := by decide +kernel
theorem i172_15 : zi 172 15 16 1 2 0 := by decide +kernel
theorem i172_16 : zi 172 16 17 1 4 0 := by decide +kernel
theorem i172_17 : zi 172 17 18 0 0 8 := by decide +kernel
theorem i172_18 : zi 172 18 19 21 196 11 := by decide +kernel
theorem i172_19 : zi 172 19 20 3 5 0 := by decide +kernel
theorem i172_20 : zi 172 20 21 1 5 0 := by decide +kernel
theorem i172_21 : zi 172 21 22 18 27 1 := by decide +kernel
theorem i172_22 : zi 172 22 23 2 0 0 := by decide +kernel
theorem i172_23 : zi 172 23 24 1 1 0 := by decide +kernel
theorem i172_24 : zi 172 24 25 1 3 0 := by decide +kernel
theorem i172_25 : zi 172 25 26 21 206 11 := by decide +kernel
theorem na_206 : z_na 206 = 2 := by decide +kernel
theorem i172_26 : zi 172 26 27 17 28 0 := by decide +kernel
theorem i172_27 : zi 172 27 28 1 5 0 := by decide +kernel
theorem i172_28 : zi 172 28 29 3 6 0 := by decide +kernel
theorem i172_29 : zi 172 29 30 2 0 0 := by decide +kernel
theorem i172_30 : zi 172 30 31 1 1 0 := by decide +kernel
theorem i172_31 : zi 172 31 32 1 4 0 := by decide +kernel
theorem i172_32 : zi 172 32 33 0 0 8 := by decide +kernel
theorem i172_33 : zi 172 33 34 1 6 0 := by decide +kernel
theorem i172_34 : zi 172 34 35 21 197 11 := by decide +kernel
theorem i172_35 : zi 172 35 36 25 0 0 := by decide +kernel
theorem th_172 : (z_th 172).isEmpty = true := by decide +kernel
theorem ml_172 : z_ml 172 = 7 := by decide +kernel
theorem en_172 : ∀ (v0 v1 v2 v3 : zV), z_ent 172 [v0, v1, v2, v3] = [some v0, some v1, some v2, some v3, none, none, none] := fun v0 v1 v2 v3 => by unfold z_ent; rw [ml_172]; rfl
theorem i173_0 : zi 173 0 1 2 0 0 := by decide +kernel
theorem i173_1 : zi 173 1 2 6 11 8 := by decide +kernel
theorem i173_2 : zi 173 2 3 1 3 0 := by decide +kernel
theorem i173_3 : zi 173 3 4 21 26 3 := by decide +kernel
theorem i173_4 : zi 173 4 5 22 185 0 := by decide +kernel
theorem i173_5 : zi 173 5 6 1 2 0 := by decide +kernel
theorem i173_6 : zi 173 6 7 22 192 0 := by decide +kernel
theorem i173_7 : zi 173 7 8 22 186 0 := by decide +kernel
theorem i173_8 : zi 173 8 9 2 0 0 := by decide +kernel
theorem i173_9 : zi 173 9 10 6 11 8 := by decide +kernel
theorem i173_10 : zi 173 10 11 1 3 0 := by decide +kernel
theorem i173_11 : zi 173 11 12 21 28 3 := by decide +kernel
theorem i173_12 : zi 173 12 13 3 4 0 := by decide +kernel
theorem i173_13 : zi 173 13 14 2 0 0 := by decide +kernel
theorem i173_14 : zi 173 14 15 1 1 0 := by decide +kernel
theorem i173_15 : zi 173 15 16 1 2 0 := by decide +kernel
theorem i173_16 : zi 173 16 17 1 4 0 := by decide +kernel
theorem i173_17 : zi 173 17 18 0 0 1 := by decide +kernel
theorem i173_18 : zi 173 18 19 21 196 11 := by decide +kernel
theorem i173_19 : zi 173 19 20 3 5 0 := by decide +kernel
theorem i173_20 : zi 173 20 21 1 5 0 := by decide +kernel
theorem i173_21 : zi 173 21 22 18 27 1 := by decide +kernel
theorem i173_22 : zi 173 22 23 2 0 0 := by decide +kernel
theorem i173_23 : zi 173 23 24 1 1 0 := by decide +kernel
theorem i173_24 : zi 173 24 25 1 3 0 := by decide +kernel
theorem i173_25 : zi 173 25 26 21 207 11 := by decide +kernel
theorem na_207 : z_na 207 = 2 := by decide +kernel
theorem i173_26 : zi 173 26 27 17 28 0 := by decide +kernel
theorem i173_27 : zi 173 27 28 1 5 0 := by decide +kernel
theorem i173_28 : zi 173 28 29 3 6 0 := by decide +kernel
theorem i173_29 : zi 173 29 30 2 0 0 := by decide +kernel
theorem i173_30 : zi 173 30 31 1 1 0 := by decide +kernel
theorem i173_31 : zi 173 31 32 1 4 0 := by decide +kernel
theorem i173_32 : zi 173 32 33 0 0 1 := by decide +kernel
theorem i173_33 : zi 173 33 34 1 6 0 := by decide +kernel
theorem i173_34 : zi 173 34 35 21 197 11 := by decide +kernel
theorem i173_35 : zi 173 35 36 25 0 0 := by decide +kernel
theorem th_173 : (z_th 173).isEmpty = true := by decide +kernel
theorem ml_173 : z_ml 173 = 7 := by decide +kernel
theorem en_173 : ∀ (v0 v1 v2 v3 : zV), z_ent 173 [v0, v1, v2, v3] = [some v0, some v1, some v2, some v3, none, none, none] := fun v0 v1 v2 v3 => by unfold z_ent; rw [ml_173]; rfl
theorem i208_0 : zi 208 0 1 2 0 0 := by decide +kernel
theorem i208_1 : zi 208 1 2 6 11 2 := by decide +kernel
theorem i208_2 : zi 208 2 3 1 1 0 := by decide +kernel
theorem i208_3 : zi 208 3 4 22 195 0 := by decide +kernel
theorem i208_4 : zi 208 4 5 21 8 1 := by decide +kernel
theorem i208_5 : zi 208 5 6 0 0 2 := by decide +kernel
theorem i208_6 : zi 208 6 7 19 9 0 := by decide +kernel
theorem i208_9 : zi 208 9 10 2 0 0 := by decide +kernel
theorem i208_10 : zi 208 10 11 6 11 9 := by decide +kernel
theorem i208_11 : zi 208 11 12 21 0 0 := by decide +kernel
theorem na_0 : z_na 0 = 0 := by decide +kernel
theorem i208_12 : zi 208 12 13 18 15 0 := by decide +kernel
theorem i208_13 : zi 208 13 14 0 0 (-11) := by decide +kernel
theorem i208_14 : zi 208 14 15 25 0 0 := by decide +kernel
theorem i208_15 : zi 208 15 16 2 0 0 := by decide +kernel
theorem i208_16 : zi 208 16 17 6 11 9 := by decide +kernel
theorem i208_17 : zi 208 17 18 1 1 0 := by decide +kernel
theorem i208_18 : zi 208 18 19 21 3 0 := by decide +kernel
theorem na_3 : z_na 3 = 1 := by decide +kernel
theorem i208_19 : zi 208 19 20 3 3 0 := by decide +kernel
theorem i208_20 : zi 208 20 21 1 3 0 := by decide +kernel
theorem i208_21 : zi 208 21 22 0 0 (-1) := by decide +kernel
theorem i208_22 : zi 208 22 23 19 32 0 := by decide +kernel
theorem i208_32 : zi 208 32 33 2 0 0 := by decide +kernel
theorem i208_33 : zi 208 33 34 6 11 9 := by decide +kernel
theorem i208_34 : zi 208 34 35 1 1 0 := by decide +kernel
theorem i208_35 : zi 208 35 36 1 3 0 := by decide +kernel
theorem i208_36 : zi 208 36 37 2 0 0 := by decide +kernel
theorem i208_37 : zi 208 37 38 6 11 11 := by decide +kernel
theorem i208_38 : zi 208 38 39 1 2 0 := by decide +kernel
theorem i208_39 : zi 208 39 40 13 0 0 := by decide +kernel
theorem i208_40 : zi 208 40 41 21 4 0 := by decide +kernel
theorem na_4 : z_na 4 = 3 := by decide +kernel
theorem i208_41 : zi 208 41 42 25 0 0 := by decide +kernel
theorem i208_23 : zi 208 23 24 2 0 0 := by decide +kernel
theorem i208_24 : zi 208 24 25 6 11 9 := by decide +kernel
theorem i208_25 : zi 208 25 26 1 3 0 := by decide +kernel
theorem i208_26 : zi 208 26 27 2 0 0 := by decide +kernel
theorem i208_27 : zi 208 27 28 6 11 11 := by decide +kernel
theorem i208_28 : zi 208 28 29 21 7 0 := by decide +kernel
theorem na_7 : z_na 7 = 2 := by decide +kernel
theorem i208_29 : zi 208 29 30 18 32 1 := by decide +kernel
theorem i208_30 : zi 208 30 31 0 0 (-7) := by decide +kernel
theorem i208_31 : zi 208 31 32 25 0 0 := by decide +kernel
theorem i208_7 : zi 208 7 8 0 0 (-13) := by decide +kernel
theorem i208_8 : zi 208 8 9 25 0 0 := by decide +kernel
theorem ml_208 : z_ml 208 = 4 := by decide +kernel
theorem en_208 : ∀ (v0 v1 v2 : zV), z_ent 208 [v0, v1, v2] = [some v0, some v1, some v2, none] := fun v0 v1 v2 => by unfold z_ent; rw [ml_208]; rfl
theorem i175_0 : zi 175 0 1 1 2 0 := by decide +kernel
theorem i175_1 : zi 175 1 2 22 192 0 := by decide +kernel
theorem i175_2 : zi 175 2 3 18 13 0 := by decide +kernel
theorem i175_3 : zi 175 3 4 1 3 0 := by decide +kernel
theorem i175_4 : zi 175 4 5 22 191 0 := by decide +kernel
theorem i175_5 : zi 175 5 6 18 13 0 := by decide +kernel
theorem i175_6 : zi 175 6 7 1 4 0 := by decide +kernel
theorem i175_7 : zi 175 7 8 0 0 1 := by decide +kernel
theorem i175_8 : zi 175 8 9 0 0 200 := by decide +kernel
theorem i175_9 : zi 175 9 10 22 188 0 := by decide +kernel
theorem i175_10 : zi 175 10 11 18 13 0 := by decide +kernel
theorem i175_11 : zi 175 11 12 0 0 1 := by decide +kernel
theorem i175_12 : zi 175 12 13 17 14 0 := by decide +kernel
theorem i175_13 : zi 175 13 14 0 0 0 := by decide +kernel
theorem i175_14 : zi 175 14 15 22 186 0 := by decide +kernel
theorem i175_15 : zi 175 15 16 2 0 0 := by decide +kernel
theorem i175_16 : zi 175 16 17 1 1 0 := by decide +kernel
theorem i175_17 : zi 175 17 18 1 2 0 := by decide +kernel
theorem i175_18 : zi 175 18 19 1 3 0 := by decide +kernel
theorem i175_19 : zi 175 19 20 0 0 8 := by decide +kernel
theorem i175_20 : zi 175 20 21 21 196 11 := by decide +kernel
theorem i175_21 : zi 175 21 22 3 5 0 := by decide +kernel
theorem i175_22 : zi 175 22 23 1 5 0 := by decide +kernel
theorem i175_23 : zi 175 23 24 18 29 1 := by decide +kernel
theorem i175_24 : zi 175 24 25 2 0 0 := by decide +kernel
theorem i175_25 : zi 175 25 26 1 3 0 := by decide +kernel
theorem i175_26 : zi 175 26 27 1 4 0 := by decide +kernel
theorem i175_27 : zi 175 27 28 21 208 11 := by decide +kernel
theorem na_208 : z_na 208 = 2 := by decide +kernel
theorem i175_28 : zi 175 28 29 17 30 0 := by decide +kernel
theorem i175_29 : zi 175 29 30 1 5 0 := by decide +kernel
theorem i175_30 : zi 175 30 31 3 6 0 := by decide +kernel
theorem i175_31 : zi 175 31 32 2 0 0 := by decide +kernel
theorem i175_32 : zi 175 32 33 1 1 0 := by decide +kernel
theorem i175_33 : zi 175 33 34 1 3 0 := by decide +kernel
theorem i175_34 : zi 175 34 35 0 0 8 := by decide +kernel
theorem i175_35 : zi 175 35 36 1 6 0 := by decide +kernel
theorem i175_36 : zi 175 36 37 21 197 11 := by decide +kernel
theorem i175_37 : zi 175 37 38 25 0 0 := by decide +kernel
theorem th_175 : (z_th 175).isEmpty = true := by decide +kernel
theorem ml_175 : z_ml 175 = 7 := by decide +kernel
theorem en_175 : ∀ (v0 v1 v2 v3 v4 : zV), z_ent 175 [v0, v1, v2, v3, v4] = [some v0, some v1, some v2, some v3, some v4, none, none] := fun v0 v1 v2 v3 v4 => by unfold z_ent; rw [ml_175]; rfl
theorem i177_0 : zi 177 0 1 2 0 0 := by decide +kernel
theorem i177_1 : zi 177 1 2 6 11 9 := by decide +kernel
theorem i177_2 : zi 177 2 3 2 0 0 := by decide +kernel
theorem i177_3 : zi 177 3 4 6 11 11 := by decide +kernel
theorem i177_4 : zi 177 4 5 21 6 0 := by decide +kernel
theorem na_6 : z_na 6 = 1 := by decide +kernel
theorem i177_5 : zi 177 5 6 25 0 0 := by decide +kernel
theorem ml_177 : z_ml 177 = 1 := by decide +kernel
theorem en_177 : ∀ (v0 : zV), z_ent 177 [v0] = [some v0] := fun v0 => by unfold z_ent; rw [ml_177]; rfl
theorem i178_0 : zi 178 0 1 2 0 0 := by decide +kernel
theorem i178_1 : zi 178 1 2 6 11 9 := by decide +kernel
theorem i178_2 : zi 178 2 3 1 1 0 := by decide +kernel
theorem i178_3 : zi 178 3 4 21 1 0 := by decide +kernel
theorem i178_4 : zi 178 4 5 22 185 0 := by decide +kernel
theorem i178_5 : zi 178 5 6 2 0 0 := by decide +kernel
theorem i178_6 : zi 178 6 7 6 11 9 := by decide +kernel
theorem i178_7 : zi 178 7 8 1 1 0 := by decide +kernel
theorem i178_8 : zi 178 8 9 2 0 0 := by decide +kernel
theorem i178_9 : zi 178 9 10 6 11 11 := by decide +kernel
theorem i178_10 : zi 178 10 11 21 7 0 := by decide +kernel
theorem i178_11 : zi 178 11 12 26 0 0 := by decide +kernel
theorem th_178 : (z_th 178).isEmpty = true := by decide +kernel
theorem ml_178 : z_ml 178 = 2 := by decide +kernel
theorem en_178 : ∀ (v0 v1 : zV), z_ent 178 [v0, v1] = [some v0, some v1] := fun v0 v1 => by unfold z_ent; rw [ml_178]; rfl
theorem i182_0 : zi 182 0 1 1 1 0 := by decide +kernel
theorem i182_1 : zi 182 1 2 0 0 1 := by decide +kernel
theorem i182_2 : zi 182 2 3 0 0 100 := by decide +kernel
theorem i182_3 : zi 182 3 4 22 188 0 := by decide +kernel
theorem i182_4 : zi 182 4 5 22 186 0 := by decide +kernel
theorem i182_5 : zi 182 5 6 2 0 0 := by decide +kernel
theorem i182_6 : zi 182 6 7 6 11 7 := by decide +kernel
theorem i182_7 : zi 182 7 8 1 1 0 := by decide +kernel
theorem i182_8 : zi 182 8 9 21 17 2 := by decide +kernel
theorem na_17 : z_na 17 = 1 := by decide +kernel
theorem i182_9 : zi 182 9 10 25 0 0 := by decide +kernel
theorem th_182 : (z_th 182).isEmpty = true := by decide +kernel
theorem ml_182 : z_ml 182 = 2 := by decide +kernel
theorem en_182 : ∀ (v0 v1 : zV), z_ent 182 [v0, v1] = [some v0, some v1] := fun v0 v1 => by unfold z_ent; rw [ml_182]; rfl
theorem i183_0 : zi 183 0 1 1 2 0 := by decide +kernel
theorem i183_1 : zi 183 1 2 22 191 0 := by decide +kernel
theorem i183_2 : zi 183 2 3 18 8 0 := by decide +kernel
theorem i183_3 : zi 183 3 4 1 3 0 := by decide +kernel
theorem i183_4 : zi 183 4 5 22 193 0 := by decide +kernel
theorem i183_5 : zi 183 5 6 18 8 0 := by decide +kernel
theorem i183_6 : zi 183 6 7 0 0 1 := by decide +kernel
theorem i183_7 : zi 183 7 8 17 9 0 := by decide +kernel
theorem i183_8 : zi 183 8 9 0 0 0 := by decide +kernel
theorem i183_9 : zi 183 9 10 22 186 0 := by decide +kernel
theorem i183_10 : zi 183 10 11 2 0 0 := by decide +kernel
theorem i183_11 : zi 183 11 12 6 11 4 := by decide +kernel
theorem i183_12 : zi 183 12 13 1 1 0 := by decide +kernel
theorem i183_13 : zi 183 13 14 21 115 10 := by decide +kernel
theorem i183_14 : zi 183 14 15 18 20 0 := by decide +kernel
theorem i183_15 : zi 183 15 16 2 0 0 := by decide +kernel
theorem i183_16 : zi 183 16 17 6 11 4 := by decide +kernel
theorem i183_17 : zi 183 17 18 1 1 0 := by decide +kernel
theorem i183_18 : zi 183 18 19 21 116 10 := by decide +kernel
theorem i183_19 : zi 183 19 20 18 22 1 := by decide +kernel
theorem i183_22 : zi 183 22 23 2 0 0 := by decide +kernel
theorem i183_23 : zi 183 23 24 1 1 0 := by decide +kernel
theorem i183_24 : zi 183 24 25 1 2 0 := by decide +kernel
theorem i183_25 : zi 183 25 26 21 198 11 := by decide +kernel
theorem i183_26 : zi 183 26 27 3 4 0 := by decide +kernel
theorem i183_27 : zi 183 27 28 1 4 0 := by decide +kernel
theorem i183_28 : zi 183 28 29 0 0 1 := by decide +kernel
theorem i183_29 : zi 183 29 30 13 5 0 := by decide +kernel
theorem i183_30 : zi 183 30 31 18 33 1 := by decide +kernel
theorem i183_31 : zi 183 31 32 0 0 (-6) := by decide +kernel
theorem i183_32 : zi 183 32 33 25 0 0 := by decide +kernel
theorem i183_33 : zi 183 33 34 1 4 0 := by decide +kernel
theorem i183_34 : zi 183 34 35 0 0 16 := by decide +kernel
theorem i183_35 : zi 183 35 36 19 38 2 := by decide +kernel
theorem i183_38 : zi 183 38 39 2 0 0 := by decide +kernel
theorem i183_39 : zi 183 39 40 6 11 7 := by decide +kernel
theorem i183_40 : zi 183 40 41 21 14 2 := by decide +kernel
theorem na_14 : z_na 14 = 0 := by decide +kernel
theorem i183_41 : zi 183 41 42 1 2 0 := by decide +kernel
theorem i183_42 : zi 183 42 43 1 3 0 := by decide +kernel
theorem i183_43 : zi 183 43 44 2 0 0 := by decide +kernel
theorem i183_44 : zi 183 44 45 6 11 1 := by decide +kernel
theorem i183_45 : zi 183 45 46 21 38 4 := by decide +kernel
theorem i183_46 : zi 183 46 47 21 110 9 := by decide +kernel
theorem i183_47 : zi 183 47 48 25 0 0 := by decide +kernel
theorem i183_36 : zi 183 36 37 0 0 (-10) := by decide +kernel
theorem i183_37 : zi 183 37 38 25 0 0 := by decide +kernel
theorem i183_20 : zi 183 20 21 0 0 (-4) := by decide +kernel
theorem i183_21 : zi 183 21 22 25 0 0 := by decide +kernel
theorem th_183 : (z_th 183).isEmpty = true := by decide +kernel
theorem ml_183 : z_ml 183 = 5 := by decide +kernel
theorem en_183 : ∀ (v0 v1 v2 v3 : zV), z_ent 183 [v0, v1, v2, v3] = [some v0, some v1, some v2, some v3, none] := fun v0 v1 v2 v3 => by unfold z_ent; rw [ml_183]; rfl
theorem i210_0 : zi 210 0 1 2 0 0 := by decide +kernel
theorem i210_1 : zi 210 1 2 14 0 0 := by decide +kernel
theorem i210_2 : zi 210 2 3 6 11 11 := by decide +kernel
theorem i210_3 : zi 210 3 4 0 0 1 := by decide +kernel
theorem i210_4 : zi 210 4 5 13 0 0 := by decide +kernel
theorem i210_5 : zi 210 5 6 7 11 11 := by decide +kernel
theorem i210_6 : zi 210 6 7 2 0 0 := by decide +kernel
theorem i210_7 : zi 210 7 8 6 11 2 := by decide +kernel
theorem i210_8 : zi 210 8 9 21 13 1 := by decide +kernel
theorem na_13 : z_na 13 = 0 := by decide +kernel
theorem i210_9 : zi 210 9 10 0 0 0 := by decide +kernel
theorem i210_10 : zi 210 10 11 3 1 0 := by decide +kernel
theorem i210_11 : zi 210 11 12 1 1 0 := by decide +kernel
theorem i210_12 : zi 210 12 13 2 0 0 := by decide +kernel
theorem i210_13 : zi 210 13 14 6 11 4 := by decide +kernel
theorem i210_14 : zi 210 14 15 21 113 10 := by decide +kernel
theorem na_113 : z_na 113 = 0 := by decide +kernel
theorem i210_15 : zi 210 15 16 19 34 3 := by decide +kernel
theorem i210_16 : zi 210 16 17 2 0 0 := by decide +kernel
theorem i210_17 : zi 210 17 18 6 11 4 := by decide +kernel
theorem i210_18 : zi 210 18 19 1 1 0 := by decide +kernel
theorem i210_19 : zi 210 19 20 21 116 10 := by decide +kernel
theorem i210_20 : zi 210 20 21 18 32 0 := by decide +kernel
theorem i210_21 : zi 210 21 22 2 0 0 := by decide +kernel
theorem i210_22 : zi 210 22 23 6 11 4 := by decide +kernel
theorem i210_23 : zi 210 23 24 1 1 0 := by decide +kernel
theorem i210_24 : zi 210 24 25 21 120 10 := by decide +kernel
theorem i210_25 : zi 210 25 26 2 0 0 := by decide +kernel
theorem i210_26 : zi 210 26 27 6 11 11 := by decide +kernel
theorem i210_27 : zi 210 27 28 19 32 1 := by decide +kernel
theorem i210_28 : zi 210 28 29 2 0 0 := by decide +kernel
theorem i210_29 : zi 210 29 30 1 1 0 := by decide +kernel
theorem i210_30 : zi 210 30 31 21 200 11 := by decide +kernel
theorem i210_31 : zi 210 31 32 16 0 0 := by decide +kernel
theorem i210_32 : zi 210 32 33 5 1 1 := by decide +kernel
theorem i210_33 : zi 210 33 34 17 11 0 := by decide +kernel
theorem i210_34 : zi 210 34 35 2 0 0 := by decide +kernel
theorem i210_35 : zi 210 35 36 6 11 5 := by decide +kernel
theorem i210_36 : zi 210 36 37 2 0 0 := by decide +kernel
theorem i210_37 : zi 210 37 38 6 11 11 := by decide +kernel
theorem i210_38 : zi 210 38 39 21 55 5 := by decide +kernel
theorem na_55 : z_na 55 = 1 := by decide +kernel
theorem i210_39 : zi 210 39 40 2 0 0 := by decide +kernel
theorem i210_40 : zi 210 40 41 6 11 5 := by decide +kernel
theorem i210_41 : zi 210 41 42 2 0 0 := by decide +kernel
theorem i210_42 : zi 210 42 43 6 11 11 := by decide +kernel
theorem i210_43 : zi 210 43 44 21 56 5 := by decide +kernel
theorem na_56 : z_na 56 = 1 := by decide +kernel
theorem i210_44 : zi 210 44 45 2 0 0 := by decide +kernel
theorem i210_45 : zi 210 45 46 6 11 5 := by decide +kernel
theorem i210_46 : zi 210 46 47 21 57 5 := by decide +kernel
theorem na_57 : z_na 57 = 0 := by decide +kernel
theorem i210_47 : zi 210 47 48 27 0 0 := by decide +kernel
theorem ml_210 : z_ml 210 = 2 := by decide +kernel
theorem en_210 : ∀ (v0 : zV), z_ent 210 [v0] = [some v0, none] := fun v0 => by unfold z_ent; rw [ml_210]; rfl
set_option maxRecDepth 100000 in
theorem w_G196_66 (a b c d : Int32) (S : zS) : G196 a b c d S 66 = S 66 := (show (if ((S 1 6) = 0) then S else (if ((F101 S) = 0) then (if (((¬ (a < 0)) ∧ (¬ ((S 5 0) ≤ a))) ∧ (((S 40 a.toNatClampNeg) = 0) ∧ (((zshr (S 38 a.toNatClampNeg) b) &&& 1) = 1))) then (if (((if ((S 37 a.toNatClampNeg) ≤ 0) then S else (z_up S 37 a.toNatClampNeg ((S 37 a.toNatClampNeg) - 1))) 19 (c / 36).toNatClampNeg) < ((if ((S 37 a.toNatClampNeg) ≤ 0) then S else (z_up S 37 a.toNatClampNeg ((S 37 a.toNatClampNeg) - 1))) 18 (c / 36).toNatClampNeg)) then (z_up (if ((S 37 a.toNatClampNeg) ≤ 0) then S else (z_up S 37 a.toNatClampNeg ((S 37 a.toNatClampNeg) - 1))) 19 (c / 36).toNatClampNeg (((if ((S 37 a.toNatClampNeg) ≤ 0) then S else (z_up S 37 a.toNatClampNeg ((S 37 a.toNatClampNeg) - 1))) 19 (c / 36).toNatClampNeg) + 1)) else (if ((S 37 a.toNatClampNeg) ≤ 0) then S else (z_up S 37 a.toNatClampNeg ((S 37 a.toNatClampNeg) - 1)))) else S) else S)) 66 = S 66 from (zite_k rfl (zite_k (zite_k (zite_k ((zupc rfl).trans (zite_k rfl (zupc rfl))) (zite_k rfl (zupc rfl))) rfl) rfl)))
set_option maxRecDepth 100000 in
theorem w_G206_5_0 (a b : Int32) (S : zS) : G206 a b S 5 0 = S 5 0 := (show (if ((S 71 b.toNatClampNeg) = 0) then (if (a = (S 66 b.toNatClampNeg)) then S else (if ((S 32 a.toNatClampNeg) = (-1)) then S else (if ((S 32 a.toNatClampNeg) = (S 32 (S 66 b.toNatClampNeg).toNatClampNeg)) then S else (z_up S 70 b.toNatClampNeg ((S 70 b.toNatClampNeg) ||| (zshl 1 (S 32 a.toNatClampNeg))))))) else S) 5 0 = S 5 0 from (zite_rd (zite_rd rfl (zite_rd rfl (zite_rd rfl (zupci rfl)))) rfl))
set_option maxRecDepth 100000 in
theorem w_G206_6_0 (a b : Int32) (S : zS) : G206 a b S 6 0 = S 6 0 := (show (if ((S 71 b.toNatClampNeg) = 0) then (if (a = (S 66 b.toNatClampNeg)) then S else (if ((S 32 a.toNatClampNeg) = (-1)) then S else (if ((S 32 a.toNatClampNeg) = (S 32 (S 66 b.toNatClampNeg).toNatClampNeg)) then S else (z_up S 70 b.toNatClampNeg ((S 70 b.toNatClampNeg) ||| (zshl 1 (S 32 a.toNatClampNeg))))))) else S) 6 0 = S 6 0 from (zite_rd (zite_rd rfl (zite_rd rfl (zite_rd rfl (zupci rfl)))) rfl))
set_option maxRecDepth 100000 in
theorem w_G206_41 (a b : Int32) (S : zS) : G206 a b S 41 = S 41 := (show (if ((S 71 b.toNatClampNeg) = 0) then (if (a = (S 66 b.toNatClampNeg)) then S else (if ((S 32 a.toNatClampNeg) = (-1)) then S else (if ((S 32 a.toNatClampNeg) = (S 32 (S 66 b.toNatClampNeg).toNatClampNeg)) then S else (z_up S 70 b.toNatClampNeg ((S 70 b.toNatClampNeg) ||| (zshl 1 (S 32 a.toNatClampNeg))))))) else S) 41 = S 41 from (zite_k (zite_k rfl (zite_k rfl (zite_k rfl (zupc rfl)))) rfl))
set_option maxRecDepth 100000 in
theorem w_G206_43 (a b : Int32) (S : zS) : G206 a b S 43 = S 43 := (show (if ((S 71 b.toNatClampNeg) = 0) then (if (a = (S 66 b.toNatClampNeg)) then S else (if ((S 32 a.toNatClampNeg) = (-1)) then S else (if ((S 32 a.toNatClampNeg) = (S 32 (S 66 b.toNatClampNeg).toNatClampNeg)) then S else (z_up S 70 b.toNatClampNeg ((S 70 b.toNatClampNeg) ||| (zshl 1 (S 32 a.toNatClampNeg))))))) else S) 43 = S 43 from (zite_k (zite_k rfl (zite_k rfl (zite_k rfl (zupc rfl)))) rfl))
def O172 (a b c : Int32) (S : zS) : zRes := (if ((¬ (c < 0)) ∧ (¬ ((S 10 4) ≤ c))) then (if ((¬ (b < 0)) ∧ (¬ (4 ≤ b))) then (.inl (some (.inl (if ((F196 a b (S 67 c.toNatClampNeg) 8 S) = 0) then ((F206 a c (G196 a b (S 67 c.toNatClampNeg) 8 S)) : Int32) else (F196 a b (S 67 c.toNatClampNeg) 8 S)))), (G197 a (S 67 c.toNatClampNeg) 8 (if ((F196 a b (S 67 c.toNatClampNeg) 8 S) = 0) then ((F206 a c (G196 a b (S 67 c.toNatClampNeg) 8 S)) : Int32) else (F196 a b (S 67 c.toNatClampNeg) 8 S)) (if ((F196 a b (S 67 c.toNatClampNeg) 8 S) = 0) then (G206 a c (G196 a b (S 67 c.toNatClampNeg) 8 S)) else (G196 a b (S 67 c.toNatClampNeg) 8 S))), 0) else (.inr 1, S, 1)) else (.inr 0, S, 1))
set_option maxRecDepth 100000 in
theorem f172 {L : Nat} (a b c : Int32) (S : zS) (g0 : ((¬ (c < 0)) ∧ (¬ ((S 10 4) ≤ c))) → ((¬ (b < 0)) ∧ (¬ (4 ≤ b))) → zx 20 c) (g1 : zo (S 1 6)) (g2 : zo (((0 ||| (S 77 0)) ||| (S 77 1)) ||| (S 77 2))) (g3 : ((¬ (c < 0)) ∧ (¬ ((S 10 4) ≤ c))) → ((¬ (b < 0)) ∧ (¬ (4 ≤ b))) → (¬ ((S 1 6) = 0)) → ((F101 S) = 0) → ((¬ (a < 0)) ∧ (¬ ((S 5 0) ≤ a))) → zx 40 a) (g4 : ((¬ (c < 0)) ∧ (¬ ((S 10 4) ≤ c))) → ((¬ (b < 0)) ∧ (¬ (4 ≤ b))) → (¬ ((S 1 6) = 0)) → ((F101 S) = 0) → (((¬ (a < 0)) ∧ (¬ ((S 5 0) ≤ a))) ∧ (((S 40 a.toNatClampNeg) = 0) ∧ (((zshr (S 38 a.toNatClampNeg) b) &&& 1) = 1))) → zx 40 a) (g5 : ((¬ (c < 0)) ∧ (¬ ((S 10 4) ≤ c))) → ((¬ (b < 0)) ∧ (¬ (4 ≤ b))) → (¬ ((S 1 6) = 0)) → ((F101 S) = 0) → (((¬ (a < 0)) ∧ (¬ ((S 5 0) ≤ a))) ∧ (((S 40 a.toNatClampNeg) = 0) ∧ (((zshr (S 38 a.toNatClampNeg) b) &&& 1) = 1))) → zx 6 ((S 67 c.toNatClampNeg) / 36)) (g6 : ((¬ (c < 0)) ∧ (¬ ((S 10 4) ≤ c))) → ((¬ (b < 0)) ∧ (¬ (4 ≤ b))) → (¬ ((S 1 6) = 0)) → ((F101 S) = 0) → (((¬ (a < 0)) ∧ (¬ ((S 5 0) ≤ a))) ∧ (((S 40 a.toNatClampNeg) = 0) ∧ (((zshr (S 38 a.toNatClampNeg) b) &&& 1) = 1))) → (((if ((S 37 a.toNatClampNeg) ≤ 0) then S else (z_up S 37 a.toNatClampNeg ((S 37 a.toNatClampNeg) - 1))) 19 ((S 67 c.toNatClampNeg) / 36).toNatClampNeg) < ((if ((S 37 a.toNatClampNeg) ≤ 0) then S else (z_up S 37 a.toNatClampNeg ((S 37 a.toNatClampNeg) - 1))) 18 ((S 67 c.toNatClampNeg) / 36).toNatClampNeg)) → (¬ (((if (((if ((S 37 a.toNatClampNeg) ≤ 0) then S else (z_up S 37 a.toNatClampNeg ((S 37 a.toNatClampNeg) - 1))) 19 ((S 67 c.toNatClampNeg) / 36).toNatClampNeg) < ((if ((S 37 a.toNatClampNeg) ≤ 0) then S else (z_up S 37 a.toNatClampNeg ((S 37 a.toNatClampNeg) - 1))) 18 ((S 67 c.toNatClampNeg) / 36).toNatClampNeg)) then (z_up (if ((S 37 a.toNatClampNeg) ≤ 0) then S else (z_up S 37 a.toNatClampNeg ((S 37 a.toNatClampNeg) - 1))) 19 ((S 67 c.toNatClampNeg) / 36).toNatClampNeg (((if ((S 37 a.toNatClampNeg) ≤ 0) then S else (z_up S 37 a.toNatClampNeg ((S 37 a.toNatClampNeg) - 1))) 19 ((S 67 c.toNatClampNeg) / 36).toNatClampNeg) + 1)) else (if ((S 37 a.toNatClampNeg) ≤ 0) then S else (z_up S 37 a.toNatClampNeg ((S 37 a.toNatClampNeg) - 1)))) 32 a.toNatClampNeg) < 0)) → (((if (((if ((S 37 a.toNatClampNeg) ≤ 0) then S else (z_up S 37 a.toNatClampNeg ((S 37 a.toNatClampNeg) - 1))) 19 ((S 67 c.toNatClampNeg) / 36).toNatClampNeg) < ((if ((S 37 a.toNatClampNeg) ≤ 0) then S else (z_up S 37 a.toNatClampNeg ((S 37 a.toNatClampNeg) - 1))) 18 ((S 67 c.toNatClampNeg) / 36).toNatClampNeg)) then (z_up (if ((S 37 a.toNatClampNeg) ≤ 0) then S else (z_up S 37 a.toNatClampNeg ((S 37 a.toNatClampNeg) - 1))) 19 ((S 67 c.toNatClampNeg) / 36).toNatClampNeg (((if ((S 37 a.toNatClampNeg) ≤ 0) then S else (z_up S 37 a.toNatClampNeg ((S 37 a.toNatClampNeg) - 1))) 19 ((S 67 c.toNatClampNeg) / 36).toNatClampNeg) + 1)) else (if ((S 37 a.toNatClampNeg) ≤ 0) then S else (z_up S 37 a.toNatClampNeg ((S 37 a.toNatClampNeg) - 1)))) 32 a.toNatClampNeg) < 8) → zx 8 (S 32 a.toNatClampNeg)) (g7 : ((¬ (c < 0)) ∧ (¬ ((S 10 4) ≤ c))) → ((¬ (b < 0)) ∧ (¬ (4 ≤ b))) → ((F196 a b (S 67 c.toNatClampNeg) 8 S) = 0) → (((G196 a b (S 67 c.toNatClampNeg) 8 S) 71 c.toNatClampNeg) = 0) → zx 40 a) (g8 : ((¬ (c < 0)) ∧ (¬ ((S 10 4) ≤ c))) → ((¬ (b < 0)) ∧ (¬ (4 ≤ b))) → ((F196 a b (S 67 c.toNatClampNeg) 8 S) = 0) → (((G196 a b (S 67 c.toNatClampNeg) 8 S) 71 c.toNatClampNeg) = 0) → (¬ (a = ((G196 a b (S 67 c.toNatClampNeg) 8 S) 66 c.toNatClampNeg))) → (¬ (((G196 a b (S 67 c.toNatClampNeg) 8 S) 32 a.toNatClampNeg) = (-1))) → zx 40 (S 66 c.toNatClampNeg)) (g9 : ((¬ (c < 0)) ∧ (¬ ((S 10 4) ≤ c))) → ((¬ (b < 0)) ∧ (¬ (4 ≤ b))) → (¬ ((if ((F196 a b (S 67 c.toNatClampNeg) 8 S) = 0) then ((F206 a c (G196 a b (S 67 c.toNatClampNeg) 8 S)) : Int32) else (F196 a b (S 67 c.toNatClampNeg) 8 S)) = (-2))) → (¬ ((if ((F196 a b (S 67 c.toNatClampNeg) 8 S) = 0) then ((F206 a c (G196 a b (S 67 c.toNatClampNeg) 8 S)) : Int32) else (F196 a b (S 67 c.toNatClampNeg) 8 S)) = (-3))) → ((¬ (a < 0)) ∧ (¬ (((if ((F196 a b (S 67 c.toNatClampNeg) 8 S) = 0) then (G206 a c (G196 a b (S 67 c.toNatClampNeg) 8 S)) else (G196 a b (S 67 c.toNatClampNeg) 8 S)) 5 0) ≤ a))) → zx 40 a) (g10 : zn 40 (S 5 0)) (g11 : ((¬ (c < 0)) ∧ (¬ ((S 10 4) ≤ c))) → ((¬ (b < 0)) ∧ (¬ (4 ≤ b))) → (¬ ((if ((F196 a b (S 67 c.toNatClampNeg) 8 S) = 0) then ((F206 a c (G196 a b (S 67 c.toNatClampNeg) 8 S)) : Int32) else (F196 a b (S 67 c.toNatClampNeg) 8 S)) = (-2))) → (¬ ((if ((F196 a b (S 67 c.toNatClampNeg) 8 S) = 0) then ((F206 a c (G196 a b (S 67 c.toNatClampNeg) 8 S)) : Int32) else (F196 a b (S 67 c.toNatClampNeg) 8 S)) = (-3))) → ((¬ (a < 0)) ∧ (¬ (((if ((F196 a b (S 67 c.toNatClampNeg) 8 S) = 0) then (G206 a c (G196 a b (S 67 c.toNatClampNeg) 8 S)) else (G196 a b (S 67 c.toNatClampNeg) 8 S)) 5 0) ≤ a))) → (((G102 (if ((¬ (a < 0)) ∧ (¬ (((if ((F196 a b (S 67 c.toNatClampNeg) 8 S) = 0) then (G206 a c (G196 a b (S 67 c.toNatClampNeg) 8 S)) else (G196 a b (S 67 c.toNatClampNeg) 8 S)) 5 0) ≤ a))) then (a : Int32) else 0) (S 67 c.toNatClampNeg) 8 (if ((F196 a b (S 67 c.toNatClampNeg) 8 S) = 0) then ((F206 a c (G196 a b (S 67 c.toNatClampNeg) 8 S)) : Int32) else (F196 a b (S 67 c.toNatClampNeg) 8 S)) (if ((F196 a b (S 67 c.toNatClampNeg) 8 S) = 0) then (G206 a c (G196 a b (S 67 c.toNatClampNeg) 8 S)) else (G196 a b (S 67 c.toNatClampNeg) 8 S))) 37 a.toNatClampNeg) = 0) → (((G102 (if ((¬ (a < 0)) ∧ (¬ (((if ((F196 a b (S 67 c.toNatClampNeg) 8 S) = 0) then (G206 a c (G196 a b (S 67 c.toNatClampNeg) 8 S)) else (G196 a b (S 67 c.toNatClampNeg) 8 S)) 5 0) ≤ a))) then (a : Int32) else 0) (S 67 c.toNatClampNeg) 8 (if ((F196 a b (S 67 c.toNatClampNeg) 8 S) = 0) then ((F206 a c (G196 a b (S 67 c.toNatClampNeg) 8 S)) : Int32) else (F196 a b (S 67 c.toNatClampNeg) 8 S)) (if ((F196 a b (S 67 c.toNatClampNeg) 8 S) = 0) then (G206 a c (G196 a b (S 67 c.toNatClampNeg) 8 S)) else (G196 a b (S 67 c.toNatClampNeg) 8 S))) 40 a.toNatClampNeg) = 0) → zn 10000 (a + 1)) (g12 : zn 40 (S 6 0)) (g13 : zA 40 40 (S 41)) (g14 : zA 40 3 (S 43)) : zf L 172 [.inr (.inr 0), .inl a, .inl b, .inl c] S (O172 a b c S) := zf_of (en_172 _ _ _ _) (zr_2_0 i172_0 (zr_6r i172_1 fl_0_8 (zr_1_3 i172_2 (zr_cv (zs_21_1 i172_3 na_26 ob_10 rfl) (f26 c S ) (zt_cast (zr_dem (E := 0) (zs_22_1 i172_4 na_185 rfl) f185 th_172 (fun h1328 => zr_1_2 i172_5 (zr_cv (zs_22_1 i172_6 na_192 rfl) (f192 b S ) (zt_cast (zr_dem (E := 1) (zs_22_1 i172_7 na_186 rfl) f186 th_172 (fun h1329 => zr_2_0 i172_8 (zr_6r i172_9 fl_0_8 (zr_1_3 i172_10 (zr_cv (zs_21_1 i172_11 na_28 ob_10 rfl) (f28 c S (g0 h1328 h1329)) (zr_3_4 i172_12 (zr_2_0 i172_13 (zr_1_1 i172_14 (zr_1_2 i172_15 (zr_1_4 i172_16 (zr_0 i172_17 kc_8 (zr_cv (zs_21_4 i172_18 na_196 ob_0 rfl) (f196 a b (S 67 c.toNatClampNeg) 8 S (g1) (g2) (fun h1330 h1331 h1332 => (g3 h1328 h1329 h1330 h1331 h1332)) (fun h1333 h1334 h1335 => (g4 h1328 h1329 h1333 h1334 h1335)) (fun h1336 h1337 h1338 => (g5 h1328 h1329 h1336 h1337 h1338)) (fun h1339 h1340 h1341 h1342 h1343 h1344 => (g6 h1328 h1329 h1339 h1340 h1341 h1342 h1343 h1344))) (zr_3_5 i172_19 (zr_1_5 i172_20 (zt_trans (zt_cast (zr_18_1 i172_21 (fun h1345 => zr_2_0 i172_22 (zr_1_1 i172_23 (zr_1_3 i172_24 (zr_cv (zs_21_2 i172_25 na_206 ob_0 rfl) (f206 a c (G196 a b (S 67 c.toNatClampNeg) 8 S) (g0 h1328 h1329) (fun h1347 => (g7 h1328 h1329 h1345 h1347)) (fun h1348 h1349 h1350 => (zxc (w_G196_66 _ _ _ _ _) (g8 h1328 h1329 h1345 h1348 h1349 h1350)))) (zr_17 i172_26 (zt_rfl)))))) (fun h1346 => zr_1_5 i172_27 (zt_rfl))) (zm_c zz_s (zl_c (zl_t zz_e) zz_s) zz_e)) (zr_3_6 i172_28 (zr_2_0 i172_29 (zr_1_1 i172_30 (zr_1_4 i172_31 (zr_0 i172_32 kc_8 (zr_1_6 i172_33 (zr_cv (zs_21_4 i172_34 na_197 ob_0 rfl) (f197 a (S 67 c.toNatClampNeg) 8 (if ((F196 a b (S 67 c.toNatClampNeg) 8 S) = 0) then ((F206 a c (G196 a b (S 67 c.toNatClampNeg) 8 S)) : Int32) else (F196 a b (S 67 c.toNatClampNeg) 8 S)) (if ((F196 a b (S 67 c.toNatClampNeg) 8 S) = 0) then (G206 a c (G196 a b (S 67 c.toNatClampNeg) 8 S)) else (G196 a b (S 67 c.toNatClampNeg) 8 S)) (fun h1351 h1352 h1353 => (g9 h1328 h1329 h1351 h1352 h1353)) (znv (zite_rd ((w_G206_5_0 _ _ _).trans (w_G196_5_0 _ _ _ _ _)) (w_G196_5_0 _ _ _ _ _)) (g10)) (fun h1354 h1355 h1356 h1357 h1358 => (g11 h1328 h1329 h1354 h1355 h1356 h1357 h1358)) (znv (zite_rd ((w_G206_6_0 _ _ _).trans (w_G196_6_0 _ _ _ _ _)) (w_G196_6_0 _ _ _ _ _)) (g12)) (zpc1 (zite_k ((w_G206_41 _ _ _).trans (w_G196_41 _ _ _ _ _)) (w_G196_41 _ _ _ _ _)) (g13)) (zpc1 (zite_k ((w_G206_43 _ _ _).trans (w_G196_43 _ _ _ _ _)) (w_G196_43 _ _ _ _ _)) (g14))) (zr_25 i172_35))))))))))))))))))))))) zm_o)))) zm_o)))))
set_option maxRecDepth 100000 in
theorem w_G196_67 (a b c d : Int32) (S : zS) : G196 a b c d S 67 = S 67 := (show (if ((S 1 6) = 0) then S else (if ((F101 S) = 0) then (if (((¬ (a < 0)) ∧ (¬ ((S 5 0) ≤ a))) ∧ (((S 40 a.toNatClampNeg) = 0) ∧ (((zshr (S 38 a.toNatClampNeg) b) &&& 1) = 1))) then (if (((if ((S 37 a.toNatClampNeg) ≤ 0) then S else (z_up S 37 a.toNatClampNeg ((S 37 a.toNatClampNeg) - 1))) 19 (c / 36).toNatClampNeg) < ((if ((S 37 a.toNatClampNeg) ≤ 0) then S else (z_up S 37 a.toNatClampNeg ((S 37 a.toNatClampNeg) - 1))) 18 (c / 36).toNatClampNeg)) then (z_up (if ((S 37 a.toNatClampNeg) ≤ 0) then S else (z_up S 37 a.toNatClampNeg ((S 37 a.toNatClampNeg) - 1))) 19 (c / 36).toNatClampNeg (((if ((S 37 a.toNatClampNeg) ≤ 0) then S else (z_up S 37 a.toNatClampNeg ((S 37 a.toNatClampNeg) - 1))) 19 (c / 36).toNatClampNeg) + 1)) else (if ((S 37 a.toNatClampNeg) ≤ 0) then S else (z_up S 37 a.toNatClampNeg ((S 37 a.toNatClampNeg) - 1)))) else S) else S)) 67 = S 67 from (zite_k rfl (zite_k (zite_k (zite_k ((zupc rfl).trans (zite_k rfl (zupc rfl))) (zite_k rfl (zupc rfl))) rfl) rfl)))
set_option maxRecDepth 100000 in
theorem w_G207_5_0 (a b : Int32) (S : zS) : G207 a b S 5 0 = S 5 0 := (show (if ((S 71 b.toNatClampNeg) = 0) then (if (a = (S 66 b.toNatClampNeg)) then (if (¬ ((F322 (S 70 b.toNatClampNeg) S) < (S 69 b.toNatClampNeg))) then (if ((if ((S 16 ((S 67 b.toNatClampNeg) / 36).toNatClampNeg) = 0) then ((F110 (S 67 b.toNatClampNeg) (S 68 b.toNatClampNeg) (S 2 3) S) : Int32) else (-13)) < 0) then S else (z_up S 71 b.toNatClampNeg 1)) else S) else S) else S) 5 0 = S 5 0 from (zite_rd (zite_rd (zite_rd (zite_rd rfl (zupci rfl)) rfl) rfl) rfl))
set_option maxRecDepth 100000 in
theorem w_G207_6_0 (a b : Int32) (S : zS) : G207 a b S 6 0 = S 6 0 := (show (if ((S 71 b.toNatClampNeg) = 0) then (if (a = (S 66 b.toNatClampNeg)) then (if (¬ ((F322 (S 70 b.toNatClampNeg) S) < (S 69 b.toNatClampNeg))) then (if ((if ((S 16 ((S 67 b.toNatClampNeg) / 36).toNatClampNeg) = 0) then ((F110 (S 67 b.toNatClampNeg) (S 68 b.toNatClampNeg) (S 2 3) S) : Int32) else (-13)) < 0) then S else (z_up S 71 b.toNatClampNeg 1)) else S) else S) else S) 6 0 = S 6 0 from (zite_rd (zite_rd (zite_rd (zite_rd rfl (zupci rfl)) rfl) rfl) rfl))
set_option maxRecDepth 100000 in
theorem w_G207_41 (a b : Int32) (S : zS) : G207 a b S 41 = S 41 := (show (if ((S 71 b.toNatClampNeg) = 0) then (if (a = (S 66 b.toNatClampNeg)) then (if (¬ ((F322 (S 70 b.toNatClampNeg) S) < (S 69 b.toNatClampNeg))) then (if ((if ((S 16 ((S 67 b.toNatClampNeg) / 36).toNatClampNeg) = 0) then ((F110 (S 67 b.toNatClampNeg) (S 68 b.toNatClampNeg) (S 2 3) S) : Int32) else (-13)) < 0) then S else (z_up S 71 b.toNatClampNeg 1)) else S) else S) else S) 41 = S 41 from (zite_k (zite_k (zite_k (zite_k rfl (zupc rfl)) rfl) rfl) rfl))
set_option maxRecDepth 100000 in
theorem w_G207_43 (a b : Int32) (S : zS) : G207 a b S 43 = S 43 := (show (if ((S 71 b.toNatClampNeg) = 0) then (if (a = (S 66 b.toNatClampNeg)) then (if (¬ ((F322 (S 70 b.toNatClampNeg) S) < (S 69 b.toNatClampNeg))) then (if ((if ((S 16 ((S 67 b.toNatClampNeg) / 36).toNatClampNeg) = 0) then ((F110 (S 67 b.toNatClampNeg) (S 68 b.toNatClampNeg) (S 2 3) S) : Int32) else (-13)) < 0) then S else (z_up S 71 b.toNatClampNeg 1)) else S) else S) else S) 43 = S 43 from (zite_k (zite_k (zite_k (zite_k rfl (zupc rfl)) rfl) rfl) rfl))
def O173 (a b c : Int32) (S : zS) : zRes := (if ((¬ (c < 0)) ∧ (¬ ((S 10 4) ≤ c))) then (if ((¬ (b < 0)) ∧ (¬ (4 ≤ b))) then (.inl (some (.inl (if ((F196 a b (S 67 c.toNatClampNeg) 1 S) = 0) then ((F207 a c (G196 a b (S 67 c.toNatClampNeg) 1 S)) : Int32) else (F196 a b (S 67 c.toNatClampNeg) 1 S)))), (G197 a (S 67 c.toNatClampNeg) 1 (if ((F196 a b (S 67 c.toNatClampNeg) 1 S) = 0) then ((F207 a c (G196 a b (S 67 c.toNatClampNeg) 1 S)) : Int32) else (F196 a b (S 67 c.toNatClampNeg) 1 S)) (if ((F196 a b (S 67 c.toNatClampNeg) 1 S) = 0) then (G207 a c (G196 a b (S 67 c.toNatClampNeg) 1 S)) else (G196 a b (S 67 c.toNatClampNeg) 1 S))), 0) else (.inr 1, S, 1)) else (.inr 0, S, 1))
set_option maxRecDepth 100000 in
theorem f173 {L : Nat} (a b c : Int32) (S : zS) (g0 : ((¬ (c < 0)) ∧ (¬ ((S 10 4) ≤ c))) → ((¬ (b < 0)) ∧ (¬ (4 ≤ b))) → zx 20 c) (g1 : zo (S 1 6)) (g2 : zo (((0 ||| (S 77 0)) ||| (S 77 1)) ||| (S 77 2))) (g3 : ((¬ (c < 0)) ∧ (¬ ((S 10 4) ≤ c))) → ((¬ (b < 0)) ∧ (¬ (4 ≤ b))) → (¬ ((S 1 6) = 0)) → ((F101 S) = 0) → ((¬ (a < 0)) ∧ (¬ ((S 5 0) ≤ a))) → zx 40 a) (g4 : ((¬ (c < 0)) ∧ (¬ ((S 10 4) ≤ c))) → ((¬ (b < 0)) ∧ (¬ (4 ≤ b))) → (¬ ((S 1 6) = 0)) → ((F101 S) = 0) → (((¬ (a < 0)) ∧ (¬ ((S 5 0) ≤ a))) ∧ (((S 40 a.toNatClampNeg) = 0) ∧ (((zshr (S 38 a.toNatClampNeg) b) &&& 1) = 1))) → zx 40 a) (g5 : ((¬ (c < 0)) ∧ (¬ ((S 10 4) ≤ c))) → ((¬ (b < 0)) ∧ (¬ (4 ≤ b))) → (¬ ((S 1 6) = 0)) → ((F101 S) = 0) → (((¬ (a < 0)) ∧ (¬ ((S 5 0) ≤ a))) ∧ (((S 40 a.toNatClampNeg) = 0) ∧ (((zshr (S 38 a.toNatClampNeg) b) &&& 1) = 1))) → zx 6 ((S 67 c.toNatClampNeg) / 36)) (g6 : ((¬ (c < 0)) ∧ (¬ ((S 10 4) ≤ c))) → ((¬ (b < 0)) ∧ (¬ (4 ≤ b))) → (¬ ((S 1 6) = 0)) → ((F101 S) = 0) → (((¬ (a < 0)) ∧ (¬ ((S 5 0) ≤ a))) ∧ (((S 40 a.toNatClampNeg) = 0) ∧ (((zshr (S 38 a.toNatClampNeg) b) &&& 1) = 1))) → (((if ((S 37 a.toNatClampNeg) ≤ 0) then S else (z_up S 37 a.toNatClampNeg ((S 37 a.toNatClampNeg) - 1))) 19 ((S 67 c.toNatClampNeg) / 36).toNatClampNeg) < ((if ((S 37 a.toNatClampNeg) ≤ 0) then S else (z_up S 37 a.toNatClampNeg ((S 37 a.toNatClampNeg) - 1))) 18 ((S 67 c.toNatClampNeg) / 36).toNatClampNeg)) → (¬ (((if (((if ((S 37 a.toNatClampNeg) ≤ 0) then S else (z_up S 37 a.toNatClampNeg ((S 37 a.toNatClampNeg) - 1))) 19 ((S 67 c.toNatClampNeg) / 36).toNatClampNeg) < ((if ((S 37 a.toNatClampNeg) ≤ 0) then S else (z_up S 37 a.toNatClampNeg ((S 37 a.toNatClampNeg) - 1))) 18 ((S 67 c.toNatClampNeg) / 36).toNatClampNeg)) then (z_up (if ((S 37 a.toNatClampNeg) ≤ 0) then S else (z_up S 37 a.toNatClampNeg ((S 37 a.toNatClampNeg) - 1))) 19 ((S 67 c.toNatClampNeg) / 36).toNatClampNeg (((if ((S 37 a.toNatClampNeg) ≤ 0) then S else (z_up S 37 a.toNatClampNeg ((S 37 a.toNatClampNeg) - 1))) 19 ((S 67 c.toNatClampNeg) / 36).toNatClampNeg) + 1)) else (if ((S 37 a.toNatClampNeg) ≤ 0) then S else (z_up S 37 a.toNatClampNeg ((S 37 a.toNatClampNeg) - 1)))) 32 a.toNatClampNeg) < 0)) → (((if (((if ((S 37 a.toNatClampNeg) ≤ 0) then S else (z_up S 37 a.toNatClampNeg ((S 37 a.toNatClampNeg) - 1))) 19 ((S 67 c.toNatClampNeg) / 36).toNatClampNeg) < ((if ((S 37 a.toNatClampNeg) ≤ 0) then S else (z_up S 37 a.toNatClampNeg ((S 37 a.toNatClampNeg) - 1))) 18 ((S 67 c.toNatClampNeg) / 36).toNatClampNeg)) then (z_up (if ((S 37 a.toNatClampNeg) ≤ 0) then S else (z_up S 37 a.toNatClampNeg ((S 37 a.toNatClampNeg) - 1))) 19 ((S 67 c.toNatClampNeg) / 36).toNatClampNeg (((if ((S 37 a.toNatClampNeg) ≤ 0) then S else (z_up S 37 a.toNatClampNeg ((S 37 a.toNatClampNeg) - 1))) 19 ((S 67 c.toNatClampNeg) / 36).toNatClampNeg) + 1)) else (if ((S 37 a.toNatClampNeg) ≤ 0) then S else (z_up S 37 a.toNatClampNeg ((S 37 a.toNatClampNeg) - 1)))) 32 a.toNatClampNeg) < 8) → zx 8 (S 32 a.toNatClampNeg)) (g7 : ((¬ (c < 0)) ∧ (¬ ((S 10 4) ≤ c))) → ((¬ (b < 0)) ∧ (¬ (4 ≤ b))) → ((F196 a b (S 67 c.toNatClampNeg) 1 S) = 0) → (((G196 a b (S 67 c.toNatClampNeg) 1 S) 71 c.toNatClampNeg) = 0) → (a = ((G196 a b (S 67 c.toNatClampNeg) 1 S) 66 c.toNatClampNeg)) → (¬ ((F322 ((G196 a b (S 67 c.toNatClampNeg) 1 S) 70 c.toNatClampNeg) (G196 a b (S 67 c.toNatClampNeg) 1 S)) < ((G196 a b (S 67 c.toNatClampNeg) 1 S) 69 c.toNatClampNeg))) → zx 6 (((G196 a b (S 67 c.toNatClampNeg) 1 S) 67 c.toNatClampNeg) / 36)) (g8 : ((¬ (c < 0)) ∧ (¬ ((S 10 4) ≤ c))) → ((¬ (b < 0)) ∧ (¬ (4 ≤ b))) → ((F196 a b (S 67 c.toNatClampNeg) 1 S) = 0) → (((G196 a b (S 67 c.toNatClampNeg) 1 S) 71 c.toNatClampNeg) = 0) → (a = ((G196 a b (S 67 c.toNatClampNeg) 1 S) 66 c.toNatClampNeg)) → (¬ ((F322 ((G196 a b (S 67 c.toNatClampNeg) 1 S) 70 c.toNatClampNeg) (G196 a b (S 67 c.toNatClampNeg) 1 S)) < ((G196 a b (S 67 c.toNatClampNeg) 1 S) 69 c.toNatClampNeg))) → (((G196 a b (S 67 c.toNatClampNeg) 1 S) 16 (((G196 a b (S 67 c.toNatClampNeg) 1 S) 67 c.toNatClampNeg) / 36).toNatClampNeg) = 0) → zx 216 (S 67 c.toNatClampNeg)) (g9 : ((¬ (c < 0)) ∧ (¬ ((S 10 4) ≤ c))) → ((¬ (b < 0)) ∧ (¬ (4 ≤ b))) → ((F196 a b (S 67 c.toNatClampNeg) 1 S) = 0) → (((G196 a b (S 67 c.toNatClampNeg) 1 S) 71 c.toNatClampNeg) = 0) → (a = ((G196 a b (S 67 c.toNatClampNeg) 1 S) 66 c.toNatClampNeg)) → (¬ ((F322 ((G196 a b (S 67 c.toNatClampNeg) 1 S) 70 c.toNatClampNeg) (G196 a b (S 67 c.toNatClampNeg) 1 S)) < ((G196 a b (S 67 c.toNatClampNeg) 1 S) 69 c.toNatClampNeg))) → (((G196 a b (S 67 c.toNatClampNeg) 1 S) 16 (((G196 a b (S 67 c.toNatClampNeg) 1 S) 67 c.toNatClampNeg) / 36).toNatClampNeg) = 0) → (¬ ((F107 ((G196 a b (S 67 c.toNatClampNeg) 1 S) 67 c.toNatClampNeg) ((G196 a b (S 67 c.toNatClampNeg) 1 S) 68 c.toNatClampNeg) (G196 a b (S 67 c.toNatClampNeg) 1 S)) = (-1))) → zx 864 (F107 ((G196 a b (S 67 c.toNatClampNeg) 1 S) 67 c.toNatClampNeg) ((G196 a b (S 67 c.toNatClampNeg) 1 S) 68 c.toNatClampNeg) (G196 a b (S 67 c.toNatClampNeg) 1 S))) (g10 : ((¬ (c < 0)) ∧ (¬ ((S 10 4) ≤ c))) → ((¬ (b < 0)) ∧ (¬ (4 ≤ b))) → (¬ ((if ((F196 a b (S 67 c.toNatClampNeg) 1 S) = 0) then ((F207 a c (G196 a b (S 67 c.toNatClampNeg) 1 S)) : Int32) else (F196 a b (S 67 c.toNatClampNeg) 1 S)) = (-2))) → (¬ ((if ((F196 a b (S 67 c.toNatClampNeg) 1 S) = 0) then ((F207 a c (G196 a b (S 67 c.toNatClampNeg) 1 S)) : Int32) else (F196 a b (S 67 c.toNatClampNeg) 1 S)) = (-3))) → ((¬ (a < 0)) ∧ (¬ (((if ((F196 a b (S 67 c.toNatClampNeg) 1 S) = 0) then (G207 a c (G196 a b (S 67 c.toNatClampNeg) 1 S)) else (G196 a b (S 67 c.toNatClampNeg) 1 S)) 5 0) ≤ a))) → zx 40 a) (g11 : zn 40 (S 5 0)) (g12 : ((¬ (c < 0)) ∧ (¬ ((S 10 4) ≤ c))) → ((¬ (b < 0)) ∧ (¬ (4 ≤ b))) → (¬ ((if ((F196 a b (S 67 c.toNatClampNeg) 1 S) = 0) then ((F207 a c (G196 a b (S 67 c.toNatClampNeg) 1 S)) : Int32) else (F196 a b (S 67 c.toNatClampNeg) 1 S)) = (-2))) → (¬ ((if ((F196 a b (S 67 c.toNatClampNeg) 1 S) = 0) then ((F207 a c (G196 a b (S 67 c.toNatClampNeg) 1 S)) : Int32) else (F196 a b (S 67 c.toNatClampNeg) 1 S)) = (-3))) → ((¬ (a < 0)) ∧ (¬ (((if ((F196 a b (S 67 c.toNatClampNeg) 1 S) = 0) then (G207 a c (G196 a b (S 67 c.toNatClampNeg) 1 S)) else (G196 a b (S 67 c.toNatClampNeg) 1 S)) 5 0) ≤ a))) → (((G102 (if ((¬ (a < 0)) ∧ (¬ (((if ((F196 a b (S 67 c.toNatClampNeg) 1 S) = 0) then (G207 a c (G196 a b (S 67 c.toNatClampNeg) 1 S)) else (G196 a b (S 67 c.toNatClampNeg) 1 S)) 5 0) ≤ a))) then (a : Int32) else 0) (S 67 c.toNatClampNeg) 1 (if ((F196 a b (S 67 c.toNatClampNeg) 1 S) = 0) then ((F207 a c (G196 a b (S 67 c.toNatClampNeg) 1 S)) : Int32) else (F196 a b (S 67 c.toNatClampNeg) 1 S)) (if ((F196 a b (S 67 c.toNatClampNeg) 1 S) = 0) then (G207 a c (G196 a b (S 67 c.toNatClampNeg) 1 S)) else (G196 a b (S 67 c.toNatClampNeg) 1 S))) 37 a.toNatClampNeg) = 0) → (((G102 (if ((¬ (a < 0)) ∧ (¬ (((if ((F196 a b (S 67 c.toNatClampNeg) 1 S) = 0) then (G207 a c (G196 a b (S 67 c.toNatClampNeg) 1 S)) else (G196 a b (S 67 c.toNatClampNeg) 1 S)) 5 0) ≤ a))) then (a : Int32) else 0) (S 67 c.toNatClampNeg) 1 (if ((F196 a b (S 67 c.toNatClampNeg) 1 S) = 0) then ((F207 a c (G196 a b (S 67 c.toNatClampNeg) 1 S)) : Int32) else (F196 a b (S 67 c.toNatClampNeg) 1 S)) (if ((F196 a b (S 67 c.toNatClampNeg) 1 S) = 0) then (G207 a c (G196 a b (S 67 c.toNatClampNeg) 1 S)) else (G196 a b (S 67 c.toNatClampNeg) 1 S))) 40 a.toNatClampNeg) = 0) → zn 10000 (a + 1)) (g13 : zn 40 (S 6 0)) (g14 : zA 40 40 (S 41)) (g15 : zA 40 3 (S 43)) : zf L 173 [.inr (.inr 0), .inl a, .inl b, .inl c] S (O173 a b c S) := zf_of (en_173 _ _ _ _) (zr_2_0 i173_0 (zr_6r i173_1 fl_0_8 (zr_1_3 i173_2 (zr_cv (zs_21_1 i173_3 na_26 ob_10 rfl) (f26 c S ) (zt_cast (zr_dem (E := 0) (zs_22_1 i173_4 na_185 rfl) f185 th_173 (fun h1359 => zr_1_2 i173_5 (zr_cv (zs_22_1 i173_6 na_192 rfl) (f192 b S ) (zt_cast (zr_dem (E := 1) (zs_22_1 i173_7 na_186 rfl) f186 th_173 (fun h1360 => zr_2_0 i173_8 (zr_6r i173_9 fl_0_8 (zr_1_3 i173_10 (zr_cv (zs_21_1 i173_11 na_28 ob_10 rfl) (f28 c S (g0 h1359 h1360)) (zr_3_4 i173_12 (zr_2_0 i173_13 (zr_1_1 i173_14 (zr_1_2 i173_15 (zr_1_4 i173_16 (zr_0 i173_17 kc_1 (zr_cv (zs_21_4 i173_18 na_196 ob_0 rfl) (f196 a b (S 67 c.toNatClampNeg) 1 S (g1) (g2) (fun h1361 h1362 h1363 => (g3 h1359 h1360 h1361 h1362 h1363)) (fun h1364 h1365 h1366 => (g4 h1359 h1360 h1364 h1365 h1366)) (fun h1367 h1368 h1369 => (g5 h1359 h1360 h1367 h1368 h1369)) (fun h1370 h1371 h1372 h1373 h1374 h1375 => (g6 h1359 h1360 h1370 h1371 h1372 h1373 h1374 h1375))) (zr_3_5 i173_19 (zr_1_5 i173_20 (zt_trans (zt_cast (zr_18_1 i173_21 (fun h1376 => zr_2_0 i173_22 (zr_1_1 i173_23 (zr_1_3 i173_24 (zr_cv (zs_21_2 i173_25 na_207 ob_0 rfl) (f207 a c (G196 a b (S 67 c.toNatClampNeg) 1 S) (g0 h1359 h1360) (fun h1378 h1379 h1380 => (g7 h1359 h1360 h1376 h1378 h1379 h1380)) (fun h1381 h1382 h1383 h1384 => (zxc (w_G196_67 _ _ _ _ _) (g8 h1359 h1360 h1376 h1381 h1382 h1383 h1384))) (fun h1385 h1386 h1387 h1388 h1389 => (g9 h1359 h1360 h1376 h1385 h1386 h1387 h1388 h1389))) (zr_17 i173_26 (zt_rfl)))))) (fun h1377 => zr_1_5 i173_27 (zt_rfl))) (zm_c zz_s (zl_c (zl_t zz_e) zz_s) zz_e)) (zr_3_6 i173_28 (zr_2_0 i173_29 (zr_1_1 i173_30 (zr_1_4 i173_31 (zr_0 i173_32 kc_1 (zr_1_6 i173_33 (zr_cv (zs_21_4 i173_34 na_197 ob_0 rfl) (f197 a (S 67 c.toNatClampNeg) 1 (if ((F196 a b (S 67 c.toNatClampNeg) 1 S) = 0) then ((F207 a c (G196 a b (S 67 c.toNatClampNeg) 1 S)) : Int32) else (F196 a b (S 67 c.toNatClampNeg) 1 S)) (if ((F196 a b (S 67 c.toNatClampNeg) 1 S) = 0) then (G207 a c (G196 a b (S 67 c.toNatClampNeg) 1 S)) else (G196 a b (S 67 c.toNatClampNeg) 1 S)) (fun h1390 h1391 h1392 => (g10 h1359 h1360 h1390 h1391 h1392)) (znv (zite_rd ((w_G207_5_0 _ _ _).trans (w_G196_5_0 _ _ _ _ _)) (w_G196_5_0 _ _ _ _ _)) (g11)) (fun h1393 h1394 h1395 h1396 h1397 => (g12 h1359 h1360 h1393 h1394 h1395 h1396 h1397)) (znv (zite_rd ((w_G207_6_0 _ _ _).trans (w_G196_6_0 _ _ _ _ _)) (w_G196_6_0 _ _ _ _ _)) (g13)) (zpc1 (zite_k ((w_G207_41 _ _ _).trans (w_G196_41 _ _ _ _ _)) (w_G196_41 _ _ _ _ _)) (g14)) (zpc1 (zite_k ((w_G207_43 _ _ _).trans (w_G196_43 _ _ _ _ _)) (w_G196_43 _ _ _ _ _)) (g15))) (zr_25 i173_35))))))))))))))))))))))) zm_o)))) zm_o)))))
def F208 (a b : Int32) (S : zS) : Int32 := (if ((S 16 (a / 36).toNatClampNeg) = 2) then ((if (¬ ((S 11 0) < 30)) then ((-11) : Int32) else (if ((F3 a S) = (-1)) then ((S 11 0) : Int32) else (if ((F7 (F3 a S) (S 0 11) S) = 0) then ((-7) : Int32) else (S 11 0)))) : Int32) else (-13))
def G208 (a b : Int32) (S : zS) : zS := (if ((S 16 (a / 36).toNatClampNeg) = 2) then (if (¬ ((S 11 0) < 30)) then S else (if ((F3 a S) = (-1)) then (G4 a (F3 a S) ((S 0 11) + b) S) else (if ((F7 (F3 a S) (S 0 11) S) = 0) then S else (G4 a (F3 a S) ((S 0 11) + b) S)))) else S)
set_option maxRecDepth 100000 in
theorem f208 {L : Nat} (a b : Int32) (S : zS) (g0 : zx 6 (a / 36)) (g1 : zn 30 (S 11 0)) (g2 : ((S 16 (a / 36).toNatClampNeg) = 2) → (¬ (¬ ((S 11 0) < 30))) → ((F3 a S) = (-1)) → zx 30 (S 11 0)) (g3 : ((S 16 (a / 36).toNatClampNeg) = 2) → (¬ (¬ ((S 11 0) < 30))) → ((F3 a S) = (-1)) → (¬ ((F3 a S) = (-1))) → zx 30 (F3 a S)) (g4 : ((S 16 (a / 36).toNatClampNeg) = 2) → (¬ (¬ ((S 11 0) < 30))) → (¬ ((F3 a S) = (-1))) → zCe (F3 a S) (S 11 0) (S 74 (F3 a S).toNatClampNeg) (S 74 (S 74 (F3 a S).toNatClampNeg).toNatClampNeg)) (g5 : ((S 16 (a / 36).toNatClampNeg) = 2) → (¬ (¬ ((S 11 0) < 30))) → (¬ ((F3 a S) = (-1))) → (¬ ((F7 (F3 a S) (S 0 11) S) = 0)) → zx 30 (S 11 0)) (g6 : ((S 16 (a / 36).toNatClampNeg) = 2) → (¬ (¬ ((S 11 0) < 30))) → (¬ ((F3 a S) = (-1))) → (¬ ((F7 (F3 a S) (S 0 11) S) = 0)) → (¬ ((F3 a S) = (-1))) → zx 30 (F3 a S)) : zf L 208 [.inr (.inr 0), .inl a, .inl b] S (.inl (some (.inl (F208 a b S))), (G208 a b S), 0) := zf_of (en_208 _ _ _) (zr_2_0 i208_0 (zr_6r i208_1 fl_0_2 (zr_1_1 i208_2 (zr_cv (zs_22_1 i208_3 na_195 rfl) (f195 a S ) (zr_cv (zs_21_1 i208_4 na_8 ob_3 rfl) (f8 (a / 36) S (g0)) (zr_0 i208_5 kc_2 (zt_cast (zr_19_0 i208_6 (fun h1398 => zr_2_0 i208_9 (zr_6r i208_10 fl_0_9 (zr_cv (zs_21_0 i208_11 na_0 ob_11 rfl) (f0  S ) (zt_cast (zr_18b_0 i208_12 (fun h1400 => zr_0 i208_13 kc_m11 (zr_25 i208_14)) (fun h1401 => zr_2_0 i208_15 (zr_6r i208_16 fl_0_9 (zr_1_1 i208_17 (zr_cv (zs_21_1 i208_18 na_3 ob_11 rfl) (f3 a S (g1)) (zr_3_3 i208_19 (zr_1_3 i208_20 (zr_0 i208_21 kc_m1 (zt_cast (zr_19_0 i208_22 (fun h1402 => zr_2_0 i208_32 (zr_6r i208_33 fl_0_9 (zr_1_1 i208_34 (zr_1_3 i208_35 (zr_2_0 i208_36 (zr_6 i208_37 fl_0_11 rfl (zr_1_2 i208_38 (zr_13_0 i208_39 (zr_cv (zs_21_3 i208_40 na_4 ob_11 rfl) (f4 a (F3 a S) ((S 0 11) + b) S (g2 h1398 h1401 h1402) (fun h1404 => (g3 h1398 h1401 h1402 h1404))) (zr_25 i208_41)))))))))) (fun h1403 => zr_2_0 i208_23 (zr_6r i208_24 fl_0_9 (zr_1_3 i208_25 (zr_2_0 i208_26 (zr_6 i208_27 fl_0_11 rfl (zr_cv (zs_21_2 i208_28 na_7 ob_11 rfl) (f7 (F3 a S) (S 0 11) S (g4 h1398 h1401 h1403)) (zt_cast (zr_18_1 i208_29 (fun h1405 => zr_0 i208_30 kc_m7 (zr_25 i208_31)) (fun h1406 => zr_2_0 i208_32 (zr_6r i208_33 fl_0_9 (zr_1_1 i208_34 (zr_1_3 i208_35 (zr_2_0 i208_36 (zr_6 i208_37 fl_0_11 rfl (zr_1_2 i208_38 (zr_13_0 i208_39 (zr_cv (zs_21_3 i208_40 na_4 ob_11 rfl) (f4 a (F3 a S) ((S 0 11) + b) S (g5 h1398 h1401 h1403 h1406) (fun h1407 => (g6 h1398 h1401 h1403 h1406 h1403))) (zr_25 i208_41))))))))))) (zm_r zz_e zz_e))))))))) (zm_r zz_e zz_e)))))))))) (zm_r zz_e zz_e))))) (fun h1399 => zr_0 i208_7 kc_m13 (zr_25 i208_8))) (zm_r zz_e zz_e))))))))
set_option maxRecDepth 100000 in
theorem w_G196_11_0 (a b c d : Int32) (S : zS) : G196 a b c d S 11 0 = S 11 0 := (show (if ((S 1 6) = 0) then S else (if ((F101 S) = 0) then (if (((¬ (a < 0)) ∧ (¬ ((S 5 0) ≤ a))) ∧ (((S 40 a.toNatClampNeg) = 0) ∧ (((zshr (S 38 a.toNatClampNeg) b) &&& 1) = 1))) then (if (((if ((S 37 a.toNatClampNeg) ≤ 0) then S else (z_up S 37 a.toNatClampNeg ((S 37 a.toNatClampNeg) - 1))) 19 (c / 36).toNatClampNeg) < ((if ((S 37 a.toNatClampNeg) ≤ 0) then S else (z_up S 37 a.toNatClampNeg ((S 37 a.toNatClampNeg) - 1))) 18 (c / 36).toNatClampNeg)) then (z_up (if ((S 37 a.toNatClampNeg) ≤ 0) then S else (z_up S 37 a.toNatClampNeg ((S 37 a.toNatClampNeg) - 1))) 19 (c / 36).toNatClampNeg (((if ((S 37 a.toNatClampNeg) ≤ 0) then S else (z_up S 37 a.toNatClampNeg ((S 37 a.toNatClampNeg) - 1))) 19 (c / 36).toNatClampNeg) + 1)) else (if ((S 37 a.toNatClampNeg) ≤ 0) then S else (z_up S 37 a.toNatClampNeg ((S 37 a.toNatClampNeg) - 1)))) else S) else S)) 11 0 = S 11 0 from (zite_rd rfl (zite_rd (zite_rd (zite_rd ((zupci rfl).trans (zite_rd rfl (zupci rfl))) (zite_rd rfl (zupci rfl))) rfl) rfl)))
set_option maxRecDepth 100000 in
theorem w_G4_5_0 (a b c : Int32) (S : zS) : G4 a b c S 5 0 = S 5 0 := (show (z_up (z_up (z_up (z_up S 72 (S 11 0).toNatClampNeg a) 74 (S 11 0).toNatClampNeg (if (b = (-1)) then ((S 11 0) : Int32) else b)) 73 (S 11 0).toNatClampNeg (if (b = (-1)) then (c : Int32) else (zmin c (S 73 b.toNatClampNeg)))) 11 0 ((S 11 0) + 1)) 5 0 = S 5 0 from ((zupci rfl).trans ((zupci rfl).trans ((zupci rfl).trans (zupci rfl)))))
set_option maxRecDepth 100000 in
theorem w_G208_5_0 (a b : Int32) (S : zS) : G208 a b S 5 0 = S 5 0 := (show (if ((S 16 (a / 36).toNatClampNeg) = 2) then (if (¬ ((S 11 0) < 30)) then S else (if ((F3 a S) = (-1)) then (G4 a (F3 a S) ((S 0 11) + b) S) else (if ((F7 (F3 a S) (S 0 11) S) = 0) then S else (G4 a (F3 a S) ((S 0 11) + b) S)))) else S) 5 0 = S 5 0 from (zite_rd (zite_rd rfl (zite_rd (w_G4_5_0 _ _ _ _) (zite_rd rfl (w_G4_5_0 _ _ _ _)))) rfl))
set_option maxRecDepth 100000 in
theorem w_G4_6_0 (a b c : Int32) (S : zS) : G4 a b c S 6 0 = S 6 0 := (show (z_up (z_up (z_up (z_up S 72 (S 11 0).toNatClampNeg a) 74 (S 11 0).toNatClampNeg (if (b = (-1)) then ((S 11 0) : Int32) else b)) 73 (S 11 0).toNatClampNeg (if (b = (-1)) then (c : Int32) else (zmin c (S 73 b.toNatClampNeg)))) 11 0 ((S 11 0) + 1)) 6 0 = S 6 0 from ((zupci rfl).trans ((zupci rfl).trans ((zupci rfl).trans (zupci rfl)))))
set_option maxRecDepth 100000 in
theorem w_G208_6_0 (a b : Int32) (S : zS) : G208 a b S 6 0 = S 6 0 := (show (if ((S 16 (a / 36).toNatClampNeg) = 2) then (if (¬ ((S 11 0) < 30)) then S else (if ((F3 a S) = (-1)) then (G4 a (F3 a S) ((S 0 11) + b) S) else (if ((F7 (F3 a S) (S 0 11) S) = 0) then S else (G4 a (F3 a S) ((S 0 11) + b) S)))) else S) 6 0 = S 6 0 from (zite_rd (zite_rd rfl (zite_rd (w_G4_6_0 _ _ _ _) (zite_rd rfl (w_G4_6_0 _ _ _ _)))) rfl))
set_option maxRecDepth 100000 in
theorem w_G4_41 (a b c : Int32) (S : zS) : G4 a b c S 41 = S 41 := (show (z_up (z_up (z_up (z_up S 72 (S 11 0).toNatClampNeg a) 74 (S 11 0).toNatClampNeg (if (b = (-1)) then ((S 11 0) : Int32) else b)) 73 (S 11 0).toNatClampNeg (if (b = (-1)) then (c : Int32) else (zmin c (S 73 b.toNatClampNeg)))) 11 0 ((S 11 0) + 1)) 41 = S 41 from ((zupc rfl).trans ((zupc rfl).trans ((zupc rfl).trans (zupc rfl)))))
set_option maxRecDepth 100000 in
theorem w_G208_41 (a b : Int32) (S : zS) : G208 a b S 41 = S 41 := (show (if ((S 16 (a / 36).toNatClampNeg) = 2) then (if (¬ ((S 11 0) < 30)) then S else (if ((F3 a S) = (-1)) then (G4 a (F3 a S) ((S 0 11) + b) S) else (if ((F7 (F3 a S) (S 0 11) S) = 0) then S else (G4 a (F3 a S) ((S 0 11) + b) S)))) else S) 41 = S 41 from (zite_k (zite_k rfl (zite_k (w_G4_41 _ _ _ _) (zite_k rfl (w_G4_41 _ _ _ _)))) rfl))
set_option maxRecDepth 100000 in
theorem w_G4_43 (a b c : Int32) (S : zS) : G4 a b c S 43 = S 43 := (show (z_up (z_up (z_up (z_up S 72 (S 11 0).toNatClampNeg a) 74 (S 11 0).toNatClampNeg (if (b = (-1)) then ((S 11 0) : Int32) else b)) 73 (S 11 0).toNatClampNeg (if (b = (-1)) then (c : Int32) else (zmin c (S 73 b.toNatClampNeg)))) 11 0 ((S 11 0) + 1)) 43 = S 43 from ((zupc rfl).trans ((zupc rfl).trans ((zupc rfl).trans (zupc rfl)))))
set_option maxRecDepth 100000 in
theorem w_G208_43 (a b : Int32) (S : zS) : G208 a b S 43 = S 43 := (show (if ((S 16 (a / 36).toNatClampNeg) = 2) then (if (¬ ((S 11 0) < 30)) then S else (if ((F3 a S) = (-1)) then (G4 a (F3 a S) ((S 0 11) + b) S) else (if ((F7 (F3 a S) (S 0 11) S) = 0) then S else (G4 a (F3 a S) ((S 0 11) + b) S)))) else S) 43 = S 43 from (zite_k (zite_k rfl (zite_k (w_G4_43 _ _ _ _) (zite_k rfl (w_G4_43 _ _ _ _)))) rfl))
set_option maxRecDepth 100000 in
theorem f175 {L : Nat} (a b c d : Int32) (S : zS) (g0 : zo (S 1 6)) (g1 : zo (((0 ||| (S 77 0)) ||| (S 77 1)) ||| (S 77 2))) (g2 : (((¬ (b < 0)) ∧ (¬ (4 ≤ b))) ∧ (((¬ (c < 0)) ∧ (¬ (216 ≤ c))) ∧ ((¬ (d < 1)) ∧ (¬ (200 < d))))) → (¬ ((S 1 6) = 0)) → ((F101 S) = 0) → ((¬ (a < 0)) ∧ (¬ ((S 5 0) ≤ a))) → zx 40 a) (g3 : (((¬ (b < 0)) ∧ (¬ (4 ≤ b))) ∧ (((¬ (c < 0)) ∧ (¬ (216 ≤ c))) ∧ ((¬ (d < 1)) ∧ (¬ (200 < d))))) → (¬ ((S 1 6) = 0)) → ((F101 S) = 0) → (((¬ (a < 0)) ∧ (¬ ((S 5 0) ≤ a))) ∧ (((S 40 a.toNatClampNeg) = 0) ∧ (((zshr (S 38 a.toNatClampNeg) b) &&& 1) = 1))) → zx 40 a) (g4 : (((¬ (b < 0)) ∧ (¬ (4 ≤ b))) ∧ (((¬ (c < 0)) ∧ (¬ (216 ≤ c))) ∧ ((¬ (d < 1)) ∧ (¬ (200 < d))))) → (¬ ((S 1 6) = 0)) → ((F101 S) = 0) → (((¬ (a < 0)) ∧ (¬ ((S 5 0) ≤ a))) ∧ (((S 40 a.toNatClampNeg) = 0) ∧ (((zshr (S 38 a.toNatClampNeg) b) &&& 1) = 1))) → zx 6 (c / 36)) (g5 : (((¬ (b < 0)) ∧ (¬ (4 ≤ b))) ∧ (((¬ (c < 0)) ∧ (¬ (216 ≤ c))) ∧ ((¬ (d < 1)) ∧ (¬ (200 < d))))) → (¬ ((S 1 6) = 0)) → ((F101 S) = 0) → (((¬ (a < 0)) ∧ (¬ ((S 5 0) ≤ a))) ∧ (((S 40 a.toNatClampNeg) = 0) ∧ (((zshr (S 38 a.toNatClampNeg) b) &&& 1) = 1))) → (((if ((S 37 a.toNatClampNeg) ≤ 0) then S else (z_up S 37 a.toNatClampNeg ((S 37 a.toNatClampNeg) - 1))) 19 (c / 36).toNatClampNeg) < ((if ((S 37 a.toNatClampNeg) ≤ 0) then S else (z_up S 37 a.toNatClampNeg ((S 37 a.toNatClampNeg) - 1))) 18 (c / 36).toNatClampNeg)) → (¬ (((if (((if ((S 37 a.toNatClampNeg) ≤ 0) then S else (z_up S 37 a.toNatClampNeg ((S 37 a.toNatClampNeg) - 1))) 19 (c / 36).toNatClampNeg) < ((if ((S 37 a.toNatClampNeg) ≤ 0) then S else (z_up S 37 a.toNatClampNeg ((S 37 a.toNatClampNeg) - 1))) 18 (c / 36).toNatClampNeg)) then (z_up (if ((S 37 a.toNatClampNeg) ≤ 0) then S else (z_up S 37 a.toNatClampNeg ((S 37 a.toNatClampNeg) - 1))) 19 (c / 36).toNatClampNeg (((if ((S 37 a.toNatClampNeg) ≤ 0) then S else (z_up S 37 a.toNatClampNeg ((S 37 a.toNatClampNeg) - 1))) 19 (c / 36).toNatClampNeg) + 1)) else (if ((S 37 a.toNatClampNeg) ≤ 0) then S else (z_up S 37 a.toNatClampNeg ((S 37 a.toNatClampNeg) - 1)))) 32 a.toNatClampNeg) < 0)) → (((if (((if ((S 37 a.toNatClampNeg) ≤ 0) then S else (z_up S 37 a.toNatClampNeg ((S 37 a.toNatClampNeg) - 1))) 19 (c / 36).toNatClampNeg) < ((if ((S 37 a.toNatClampNeg) ≤ 0) then S else (z_up S 37 a.toNatClampNeg ((S 37 a.toNatClampNeg) - 1))) 18 (c / 36).toNatClampNeg)) then (z_up (if ((S 37 a.toNatClampNeg) ≤ 0) then S else (z_up S 37 a.toNatClampNeg ((S 37 a.toNatClampNeg) - 1))) 19 (c / 36).toNatClampNeg (((if ((S 37 a.toNatClampNeg) ≤ 0) then S else (z_up S 37 a.toNatClampNeg ((S 37 a.toNatClampNeg) - 1))) 19 (c / 36).toNatClampNeg) + 1)) else (if ((S 37 a.toNatClampNeg) ≤ 0) then S else (z_up S 37 a.toNatClampNeg ((S 37 a.toNatClampNeg) - 1)))) 32 a.toNatClampNeg) < 8) → zx 8 (S 32 a.toNatClampNeg)) (g6 : (((¬ (b < 0)) ∧ (¬ (4 ≤ b))) ∧ (((¬ (c < 0)) ∧ (¬ (216 ≤ c))) ∧ ((¬ (d < 1)) ∧ (¬ (200 < d))))) → ((F196 a b c 8 S) = 0) → zx 6 (c / 36)) (g7 : zn 30 (S 11 0)) (g8 : (((¬ (b < 0)) ∧ (¬ (4 ≤ b))) ∧ (((¬ (c < 0)) ∧ (¬ (216 ≤ c))) ∧ ((¬ (d < 1)) ∧ (¬ (200 < d))))) → ((F196 a b c 8 S) = 0) → (((G196 a b c 8 S) 16 (c / 36).toNatClampNeg) = 2) → (¬ (¬ (((G196 a b c 8 S) 11 0) < 30))) → ((F3 c (G196 a b c 8 S)) = (-1)) → zx 30 (S 11 0)) (g9 : (((¬ (b < 0)) ∧ (¬ (4 ≤ b))) ∧ (((¬ (c < 0)) ∧ (¬ (216 ≤ c))) ∧ ((¬ (d < 1)) ∧ (¬ (200 < d))))) → ((F196 a b c 8 S) = 0) → (((G196 a b c 8 S) 16 (c / 36).toNatClampNeg) = 2) → (¬ (¬ (((G196 a b c 8 S) 11 0) < 30))) → ((F3 c (G196 a b c 8 S)) = (-1)) → (¬ ((F3 c (G196 a b c 8 S)) = (-1))) → zx 30 (F3 c (G196 a b c 8 S))) (g10 : (((¬ (b < 0)) ∧ (¬ (4 ≤ b))) ∧ (((¬ (c < 0)) ∧ (¬ (216 ≤ c))) ∧ ((¬ (d < 1)) ∧ (¬ (200 < d))))) → ((F196 a b c 8 S) = 0) → (((G196 a b c 8 S) 16 (c / 36).toNatClampNeg) = 2) → (¬ (¬ (((G196 a b c 8 S) 11 0) < 30))) → (¬ ((F3 c (G196 a b c 8 S)) = (-1))) → zCe (F3 c (G196 a b c 8 S)) ((G196 a b c 8 S) 11 0) ((G196 a b c 8 S) 74 (F3 c (G196 a b c 8 S)).toNatClampNeg) ((G196 a b c 8 S) 74 ((G196 a b c 8 S) 74 (F3 c (G196 a b c 8 S)).toNatClampNeg).toNatClampNeg)) (g11 : (((¬ (b < 0)) ∧ (¬ (4 ≤ b))) ∧ (((¬ (c < 0)) ∧ (¬ (216 ≤ c))) ∧ ((¬ (d < 1)) ∧ (¬ (200 < d))))) → ((F196 a b c 8 S) = 0) → (((G196 a b c 8 S) 16 (c / 36).toNatClampNeg) = 2) → (¬ (¬ (((G196 a b c 8 S) 11 0) < 30))) → (¬ ((F3 c (G196 a b c 8 S)) = (-1))) → (¬ ((F7 (F3 c (G196 a b c 8 S)) ((G196 a b c 8 S) 0 11) (G196 a b c 8 S)) = 0)) → zx 30 (S 11 0)) (g12 : (((¬ (b < 0)) ∧ (¬ (4 ≤ b))) ∧ (((¬ (c < 0)) ∧ (¬ (216 ≤ c))) ∧ ((¬ (d < 1)) ∧ (¬ (200 < d))))) → ((F196 a b c 8 S) = 0) → (((G196 a b c 8 S) 16 (c / 36).toNatClampNeg) = 2) → (¬ (¬ (((G196 a b c 8 S) 11 0) < 30))) → (¬ ((F3 c (G196 a b c 8 S)) = (-1))) → (¬ ((F7 (F3 c (G196 a b c 8 S)) ((G196 a b c 8 S) 0 11) (G196 a b c 8 S)) = 0)) → (¬ ((F3 c (G196 a b c 8 S)) = (-1))) → zx 30 (F3 c (G196 a b c 8 S))) (g13 : (((¬ (b < 0)) ∧ (¬ (4 ≤ b))) ∧ (((¬ (c < 0)) ∧ (¬ (216 ≤ c))) ∧ ((¬ (d < 1)) ∧ (¬ (200 < d))))) → (¬ ((if ((F196 a b c 8 S) = 0) then ((F208 c d (G196 a b c 8 S)) : Int32) else (F196 a b c 8 S)) = (-2))) → (¬ ((if ((F196 a b c 8 S) = 0) then ((F208 c d (G196 a b c 8 S)) : Int32) else (F196 a b c 8 S)) = (-3))) → ((¬ (a < 0)) ∧ (¬ (((if ((F196 a b c 8 S) = 0) then (G208 c d (G196 a b c 8 S)) else (G196 a b c 8 S)) 5 0) ≤ a))) → zx 40 a) (g14 : zn 40 (S 5 0)) (g15 : (((¬ (b < 0)) ∧ (¬ (4 ≤ b))) ∧ (((¬ (c < 0)) ∧ (¬ (216 ≤ c))) ∧ ((¬ (d < 1)) ∧ (¬ (200 < d))))) → (¬ ((if ((F196 a b c 8 S) = 0) then ((F208 c d (G196 a b c 8 S)) : Int32) else (F196 a b c 8 S)) = (-2))) → (¬ ((if ((F196 a b c 8 S) = 0) then ((F208 c d (G196 a b c 8 S)) : Int32) else (F196 a b c 8 S)) = (-3))) → ((¬ (a < 0)) ∧ (¬ (((if ((F196 a b c 8 S) = 0) then (G208 c d (G196 a b c 8 S)) else (G196 a b c 8 S)) 5 0) ≤ a))) → (((G102 (if ((¬ (a < 0)) ∧ (¬ (((if ((F196 a b c 8 S) = 0) then (G208 c d (G196 a b c 8 S)) else (G196 a b c 8 S)) 5 0) ≤ a))) then (a : Int32) else 0) c 8 (if ((F196 a b c 8 S) = 0) then ((F208 c d (G196 a b c 8 S)) : Int32) else (F196 a b c 8 S)) (if ((F196 a b c 8 S) = 0) then (G208 c d (G196 a b c 8 S)) else (G196 a b c 8 S))) 37 a.toNatClampNeg) = 0) → (((G102 (if ((¬ (a < 0)) ∧ (¬ (((if ((F196 a b c 8 S) = 0) then (G208 c d (G196 a b c 8 S)) else (G196 a b c 8 S)) 5 0) ≤ a))) then (a : Int32) else 0) c 8 (if ((F196 a b c 8 S) = 0) then ((F208 c d (G196 a b c 8 S)) : Int32) else (F196 a b c 8 S)) (if ((F196 a b c 8 S) = 0) then (G208 c d (G196 a b c 8 S)) else (G196 a b c 8 S))) 40 a.toNatClampNeg) = 0) → zn 10000 (a + 1)) (g16 : zn 40 (S 6 0)) (g17 : zA 40 40 (S 41)) (g18 : zA 40 3 (S 43)) : zf L 175 [.inr (.inr 0), .inl a, .inl b, .inl c, .inl d] S (if (((¬ (b < 0)) ∧ (¬ (4 ≤ b))) ∧ (((¬ (c < 0)) ∧ (¬ (216 ≤ c))) ∧ ((¬ (d < 1)) ∧ (¬ (200 < d))))) then (.inl (some (.inl (if ((F196 a b c 8 S) = 0) then ((F208 c d (G196 a b c 8 S)) : Int32) else (F196 a b c 8 S)))), (G197 a c 8 (if ((F196 a b c 8 S) = 0) then ((F208 c d (G196 a b c 8 S)) : Int32) else (F196 a b c 8 S)) (if ((F196 a b c 8 S) = 0) then (G208 c d (G196 a b c 8 S)) else (G196 a b c 8 S))), 0) else (.inr 1, S, 1)) := zf_of (en_175 _ _ _ _ _) (zr_1_2 i175_0 (zr_cv (zs_22_1 i175_1 na_192 rfl) (f192 b S ) (zt_trans (zt_cast (zr_18b_0 i175_2 (fun h1408 => zr_1_3 i175_3 (zr_cv (zs_22_1 i175_4 na_191 rfl) (f191 c S ) (zt_cast (zr_18b_0 i175_5 (fun h1410 => zr_1_4 i175_6 (zr_0 i175_7 kc_1 (zr_0 i175_8 kc_200 (zr_cv (zs_22_3 i175_9 na_188 rfl) (f188 d 1 200 S ) (zt_cast (zr_18b_0 i175_10 (fun h1412 => zr_0 i175_11 kc_1 (zr_17 i175_12 (zt_rfl))) (fun h1413 => zr_0 i175_13 kc_0 (zt_rfl))) (zm_c zz_s (zl_c (zl_t zz_10) zz_s) zz_s)))))) (fun h1411 => zr_0 i175_13 kc_0 (zt_rfl))) (zm_c zz_s (zl_c (zl_t zz_b0) zz_s) zz_s)))) (fun h1409 => zr_0 i175_13 kc_0 (zt_rfl))) (zm_c zz_s (zl_c (zl_t zz_b0) zz_s) zz_s)) (zt_cast (zr_dem (E := 1) (zs_22_1 i175_14 na_186 rfl) f186 th_175 (fun h1414 => zr_2_0 i175_15 (zr_1_1 i175_16 (zr_1_2 i175_17 (zr_1_3 i175_18 (zr_0 i175_19 kc_8 (zr_cv (zs_21_4 i175_20 na_196 ob_0 rfl) (f196 a b c 8 S (g0) (g1) (fun h1415 h1416 h1417 => (g2 h1414 h1415 h1416 h1417)) (fun h1418 h1419 h1420 => (g3 h1414 h1418 h1419 h1420)) (fun h1421 h1422 h1423 => (g4 h1414 h1421 h1422 h1423)) (fun h1424 h1425 h1426 h1427 h1428 h1429 => (g5 h1414 h1424 h1425 h1426 h1427 h1428 h1429))) (zr_3_5 i175_21 (zr_1_5 i175_22 (zt_trans (zt_cast (zr_18_1 i175_23 (fun h1430 => zr_2_0 i175_24 (zr_1_3 i175_25 (zr_1_4 i175_26 (zr_cv (zs_21_2 i175_27 na_208 ob_0 rfl) (f208 c d (G196 a b c 8 S) (g6 h1414 h1430) (znv (w_G196_11_0 _ _ _ _ _) (g7)) (fun h1432 h1433 h1434 => (zxv (w_G196_11_0 _ _ _ _ _) (g8 h1414 h1430 h1432 h1433 h1434))) (fun h1435 h1436 h1437 h1438 => (g9 h1414 h1430 h1435 h1436 h1437 h1438)) (fun h1439 h1440 h1441 => (g10 h1414 h1430 h1439 h1440 h1441)) (fun h1442 h1443 h1444 h1445 => (zxv (w_G196_11_0 _ _ _ _ _) (g11 h1414 h1430 h1442 h1443 h1444 h1445))) (fun h1446 h1447 h1448 h1449 h1450 => (g12 h1414 h1430 h1446 h1447 h1448 h1449 h1448))) (zr_17 i175_28 (zt_rfl)))))) (fun h1431 => zr_1_5 i175_29 (zt_rfl))) (zm_c zz_s (zl_c (zl_t zz_e) zz_s) zz_e)) (zr_3_6 i175_30 (zr_2_0 i175_31 (zr_1_1 i175_32 (zr_1_3 i175_33 (zr_0 i175_34 kc_8 (zr_1_6 i175_35 (zr_cv (zs_21_4 i175_36 na_197 ob_0 rfl) (f197 a c 8 (if ((F196 a b c 8 S) = 0) then ((F208 c d (G196 a b c 8 S)) : Int32) else (F196 a b c 8 S)) (if ((F196 a b c 8 S) = 0) then (G208 c d (G196 a b c 8 S)) else (G196 a b c 8 S)) (fun h1451 h1452 h1453 => (g13 h1414 h1451 h1452 h1453)) (znv (zite_rd ((w_G208_5_0 _ _ _).trans (w_G196_5_0 _ _ _ _ _)) (w_G196_5_0 _ _ _ _ _)) (g14)) (fun h1454 h1455 h1456 h1457 h1458 => (g15 h1414 h1454 h1455 h1456 h1457 h1458)) (znv (zite_rd ((w_G208_6_0 _ _ _).trans (w_G196_6_0 _ _ _ _ _)) (w_G196_6_0 _ _ _ _ _)) (g16)) (zpc1 (zite_k ((w_G208_41 _ _ _).trans (w_G196_41 _ _ _ _ _)) (w_G196_41 _ _ _ _ _)) (g17)) (zpc1 (zite_k ((w_G208_43 _ _ _).trans (w_G196_43 _ _ _ _ _)) (w_G196_43 _ _ _ _ _)) (g18))) (zr_25 i175_37)))))))))))))))))) zm_o))))
set_option maxRecDepth 100000 in
theorem f177 {L : Nat} (S : zS) (g0 : zn 30 (S 11 0)) : zf L 177 [.inr (.inr 0)] S (.inl (some (.inl (K6_4_c2 (S 0 11) 0 0 S))), (K6_4_S (S 0 11) 0 0 S), 0) := zf_of (en_177 _) (zr_2_0 i177_0 (zr_6r i177_1 fl_0_9 (zr_2_0 i177_2 (zr_6 i177_3 fl_0_11 rfl (zr_cv (zs_21_1 i177_4 na_6 ob_11 rfl) (f6 (S 0 11) S (g0)) (zr_25 i177_5))))))
set_option maxRecDepth 100000 in
theorem f178 {L : Nat} (a : Int32) (S : zS) (g0 : ((¬ (a < 0)) ∧ (¬ ((S 11 0) ≤ a))) → zCe a (S 11 0) (S 74 a.toNatClampNeg) (S 74 (S 74 a.toNatClampNeg).toNatClampNeg)) (g1 : ((¬ (a < 0)) ∧ (¬ ((S 11 0) ≤ a))) → zo (F7 a (S 0 11) S)) : zf L 178 [.inr (.inr 0), .inl a] S (if ((¬ (a < 0)) ∧ (¬ ((S 11 0) ≤ a))) then (.inl (some (.inl (F7 a (S 0 11) S))), S, 0) else (.inr 0, S, 1)) := zf_of (en_178 _ _) (zr_2_0 i178_0 (zr_6r i178_1 fl_0_9 (zr_1_1 i178_2 (zr_cv (zs_21_1 i178_3 na_1 ob_11 rfl) (f1 a S ) (zt_cast (zr_dem (E := 0) (zs_22_1 i178_4 na_185 rfl) f185 th_178 (fun h1459 => zr_2_0 i178_5 (zr_6r i178_6 fl_0_9 (zr_1_1 i178_7 (zr_2_0 i178_8 (zr_6 i178_9 fl_0_11 rfl (zr_cv (zs_21_2 i178_10 na_7 ob_11 rfl) (f7 a (S 0 11) S (g0 h1459)) (zr_26 i178_11 (g1 h1459))))))))) zm_o)))))
set_option maxRecDepth 100000 in
theorem f182 {L : Nat} (a : Int32) (S : zS) (g0 : ((¬ (a < 1)) ∧ (¬ (100 < a))) → zn 600 a) (g1 : zn 512 (S 8 5)) (g2 : zn 512 (S 8 6)) (g3 : zA 512 216 (S 55)) : zf L 182 [.inr (.inr 0), .inl a] S (if ((¬ (a < 1)) ∧ (¬ (100 < a))) then (.inl (some (.inl (((K17_2_S a 0 S) 8 5) - ((K17_2_S a 0 S) 8 6)))), (K17_2_S a 0 S), 0) else (.inr 1, S, 1)) := zf_of (en_182 _ _) (zr_1_1 i182_0 (zr_0 i182_1 kc_1 (zr_0 i182_2 kc_100 (zr_cv (zs_22_3 i182_3 na_188 rfl) (f188 a 1 100 S ) (zt_cast (zr_dem (E := 1) (zs_22_1 i182_4 na_186 rfl) f186 th_182 (fun h1460 => zr_2_0 i182_5 (zr_6r i182_6 fl_0_7 (zr_1_1 i182_7 (zr_cv (zs_21_1 i182_8 na_17 ob_8 rfl) (f17 a S (g0 h1460) (g1) (g2) (g3)) (zr_25 i182_9)))))) zm_o)))))
set_option maxRecDepth 100000 in
theorem f183 {L : Nat} (a b c : Int32) (S : zS) (g0 : (((¬ (b < 0)) ∧ (¬ (216 ≤ b))) ∧ ((¬ (c < 0)) ∧ (¬ (9999 < c)))) → ((¬ (a < 0)) ∧ (¬ ((S 5 0) ≤ a))) → zx 40 a) (g1 : (((¬ (b < 0)) ∧ (¬ (216 ≤ b))) ∧ ((¬ (c < 0)) ∧ (¬ (9999 < c)))) → ((¬ (a < 0)) ∧ (¬ ((S 5 0) ≤ a))) → ((S 40 a.toNatClampNeg) = 0) → (¬ ((S 32 a.toNatClampNeg) < 0)) → ((S 32 a.toNatClampNeg) < 8) → zx 8 (S 32 a.toNatClampNeg)) (g2 : (((¬ (b < 0)) ∧ (¬ (216 ≤ b))) ∧ ((¬ (c < 0)) ∧ (¬ (9999 < c)))) → ((¬ (a < 0)) ∧ (¬ ((S 5 0) ≤ a))) → ((S 40 a.toNatClampNeg) = 0) → (¬ (((F64 (S 33 a.toNatClampNeg) (S 32 a.toNatClampNeg) b S) &&& 1) = 0)) → ((F64 (S 33 a.toNatClampNeg) (S 32 a.toNatClampNeg) b S) < 16) → zx 216 b) (g3 : (((¬ (b < 0)) ∧ (¬ (216 ≤ b))) ∧ ((¬ (c < 0)) ∧ (¬ (9999 < c)))) → ((¬ (a < 0)) ∧ (¬ ((S 5 0) ≤ a))) → ((S 40 a.toNatClampNeg) = 0) → (¬ (((F64 (S 33 a.toNatClampNeg) (S 32 a.toNatClampNeg) b S) &&& 1) = 0)) → ((F64 (S 33 a.toNatClampNeg) (S 32 a.toNatClampNeg) b S) < 16) → (¬ ((F107_9 b c S) = (-1))) → zx 864 (F107_9 b c S)) : zf L 183 [.inr (.inr 0), .inl a, .inl b, .inl c] S (if (((¬ (b < 0)) ∧ (¬ (216 ≤ b))) ∧ ((¬ (c < 0)) ∧ (¬ (9999 < c)))) then (.inl (some (.inl (if ((¬ (a < 0)) ∧ (¬ ((S 5 0) ≤ a))) then ((if ((S 40 a.toNatClampNeg) = 0) then ((if (((F64 (S 33 a.toNatClampNeg) (S 32 a.toNatClampNeg) b S) &&& 1) = 0) then ((-6) : Int32) else (if ((F64 (S 33 a.toNatClampNeg) (S 32 a.toNatClampNeg) b S) < 16) then ((F110_9 b c (S 2 3) S) : Int32) else (-10))) : Int32) else (-4)) : Int32) else (-4)))), S, 0) else (.inr 1, S, 1)) := zf_of (en_183 _ _ _ _) (zr_1_2 i183_0 (zr_cv (zs_22_1 i183_1 na_191 rfl) (f191 b S ) (zt_trans (zt_cast (zr_18b_0 i183_2 (fun h1461 => zr_1_3 i183_3 (zr_cv (zs_22_1 i183_4 na_193 rfl) (f193 c S ) (zt_cast (zr_18b_0 i183_5 (fun h1463 => zr_0 i183_6 kc_1 (zr_17 i183_7 (zt_rfl))) (fun h1464 => zr_0 i183_8 kc_0 (zt_rfl))) (zm_c zz_s (zl_c (zl_t zz_10) zz_s) zz_s)))) (fun h1462 => zr_0 i183_8 kc_0 (zt_rfl))) (zm_c zz_s (zl_c (zl_t zz_b0) zz_s) zz_s)) (zt_cast (zr_dem (E := 1) (zs_22_1 i183_9 na_186 rfl) f186 th_183 (fun h1465 => zr_2_0 i183_10 (zr_6r i183_11 fl_0_4 (zr_1_1 i183_12 (zr_cv (zs_21_1 i183_13 na_115 ob_5 rfl) (f115 a S ) (zt_cast (zr_18b_0 i183_14 (fun h1466 => zr_2_0 i183_15 (zr_6r i183_16 fl_0_4 (zr_1_1 i183_17 (zr_cv (zs_21_1 i183_18 na_116 ob_5 rfl) (f116 a S (g0 h1465 h1466)) (zt_cast (zr_18b_1 i183_19 (fun h1468 => zr_2_0 i183_22 (zr_1_1 i183_23 (zr_1_2 i183_24 (zr_cv (zs_21_2 i183_25 na_198 ob_0 rfl) (f198 a b S (g0 h1465 h1466) (fun h1470 h1471 => (g1 h1465 h1466 h1468 h1470 h1471))) (zr_3_4 i183_26 (zr_1_4 i183_27 (zr_0 i183_28 kc_1 (zr_13_5 i183_29 (zt_cast (zr_18_1 i183_30 (fun h1472 => zr_0 i183_31 kc_m6 (zr_25 i183_32)) (fun h1473 => zr_1_4 i183_33 (zr_0 i183_34 kc_16 (zt_cast (zr_19_2 i183_35 (fun h1474 => zr_2_0 i183_38 (zr_6r i183_39 fl_0_7 (zr_cv (zs_21_0 i183_40 na_14 ob_8 rfl) (f14  S ) (zr_1_2 i183_41 (zr_1_3 i183_42 (zr_2_0 i183_43 (zr_6r i183_44 fl_0_1 (zr_cv (zs_21_0 i183_45 na_38 ob_2 rfl) (f38  S ) (zr_cv (zs_21_3 i183_46 na_110 ob_9 rfl) (f110_9 b c (S 2 3) S (g2 h1465 h1466 h1468 h1473 h1474) (fun h1476 => (g3 h1465 h1466 h1468 h1473 h1474 h1476))) (zr_25 i183_47)))))))))) (fun h1475 => zr_0 i183_36 kc_m10 (zr_25 i183_37))) (zm_r zz_e zz_s))))) (zm_r zz_e zz_s)))))))))) (fun h1469 => zr_0 i183_20 kc_m4 (zr_25 i183_21))) (zm_r zz_e zz_s)))))) (fun h1467 => zr_0 i183_20 kc_m4 (zr_25 i183_21))) (zm_r zz_e zz_s))))))) zm_o))))
set_option maxRecDepth 100000 in
theorem w_K55_2_S_6_0 (x1 : Int32) (i0 : Nat) (S : zS) : K55_2_S x1 i0 S 6 0 = S 6 0 := zfold_keep (f := (k55_2 x1 )) (fun (b : zS) => b 6 0) ((fun j b => by unfold k55_2; exact (show (if ((b 46 j) = 0) then (if ((b 44 j) = x1) then (G60 (Int32.ofNat j) (z_up b 44 j x1)) else b) else b) 6 0 = b 6 0 from (zite_rd (zite_rd ((w_G60_6_0 _ _).trans (zupci rfl)) rfl) rfl)))) _ _
set_option maxRecDepth 100000 in
theorem w_K55_2_S_43 (x1 : Int32) (i0 : Nat) (S : zS) : K55_2_S x1 i0 S 43 = S 43 := zfold_keep (f := (k55_2 x1 )) (fun (b : zS) => b 43) ((fun j b => by unfold k55_2; exact (show (if ((b 46 j) = 0) then (if ((b 44 j) = x1) then (G60 (Int32.ofNat j) (z_up b 44 j x1)) else b) else b) 43 = b 43 from (zite_k (zite_k ((w_G60_43 _ _).trans (zupc rfl)) rfl) rfl)))) _ _
set_option maxRecDepth 100000 in
theorem s210_11 {L : Nat} (x1 : Int32) (S : zS) (g0 : (¬ ((S 5 0) ≤ x1)) → zx 40 x1) (g1 : zn 40 (S 5 0)) (g2 : (¬ ((S 5 0) ≤ x1)) → ((S 40 x1.toNatClampNeg) = 0) → ((S 34 x1.toNatClampNeg) = (S 0 11)) → ((S 40 x1.toNatClampNeg) = 0) → zn 10000 (x1 + 1)) (g3 : zn 40 (S 6 0)) (g4 : zA 40 40 (S 41)) (g5 : zA 40 3 (S 43)) : zt L 210 11 [some (.inr (.inr 0)), some (.inl x1)] [] S (if ((S 5 0) ≤ x1) then (.inl (34, [some (.inr (.inr 0)), some (.inl x1)], [], S)) else (.inl (11, [some (.inr (.inr 0)), some (.inl (x1 + 1))], [], (if ((S 40 x1.toNatClampNeg) = 0) then (if ((S 34 x1.toNatClampNeg) = (S 0 11)) then (G200 x1 S) else S) else S)))) := zr_1_1 i210_11 (zr_2_0 i210_12 (zr_6r i210_13 fl_0_4 (zr_cv (zs_21_0 i210_14 na_113 ob_5 rfl) (f113  S ) (zr_19_3 i210_15 (fun h1491 => zt_rfl) (fun h1492 => zr_2_0 i210_16 (zr_6r i210_17 fl_0_4 (zr_1_1 i210_18 (zr_cv (zs_21_1 i210_19 na_116 ob_5 rfl) (f116 x1 S (g0 h1492)) (zt_trans (zt_cast (zr_18b_0 i210_20 (fun h1493 => zr_2_0 i210_21 (zr_6r i210_22 fl_0_4 (zr_1_1 i210_23 (zr_cv (zs_21_1 i210_24 na_120 ob_5 rfl) (f120 x1 S (g0 h1492)) (zr_2_0 i210_25 (zr_6 i210_26 fl_0_11 rfl (zt_cast (zr_19_1 i210_27 (fun h1495 => zr_2_0 i210_28 (zr_1_1 i210_29 (zr_cv (zs_21_1 i210_30 na_200 ob_0 rfl) (f200 x1 S (g0 h1492) (g1) (fun h1497 => (g2 h1492 h1493 h1495 h1493)) (g3) (g4) (g5)) (zr_16 i210_31 (zt_rfl))))) (fun h1496 => zt_rfl)) (zm_c zz_s zz_s zz_e)))))))) (fun h1494 => zt_rfl)) (zm_c zz_s zz_s zz_e)) (zr_5_1 i210_32 kc_1 (zr_17 i210_33 (zt_rfl))))))))))))
def k210_11 (j : Nat) (a : zS) : zS := (if ((a 40 j) = 0) then (if ((a 34 j) = (a 0 11)) then (G200 (Int32.ofNat j) a) else a) else a)
set_option maxRecDepth 100000 in
theorem l210_11 {L : Nat} (i0 n : Nat) (a : zS) (hn : i0 + n < 2147483648) (hc0 : ∀ j, j < n → ¬ (((zfold (k210_11 ) i0 j a) 5 0) ≤ (Int32.ofNat (i0 + j)))) (g0 : ∀ j, j < n → (¬ (((zfold (k210_11 ) i0 j a) 5 0) ≤ (Int32.ofNat (i0 + j)))) → zx 40 (Int32.ofNat (i0 + j))) (g1 : ∀ j, j < n → zn 40 ((zfold (k210_11 ) i0 j a) 5 0)) (g2 : ∀ j, j < n → (¬ (((zfold (k210_11 ) i0 j a) 5 0) ≤ (Int32.ofNat (i0 + j)))) → (((zfold (k210_11 ) i0 j a) 40 (i0 + j)) = 0) → (((zfold (k210_11 ) i0 j a) 34 (i0 + j)) = ((zfold (k210_11 ) i0 j a) 0 11)) → (((zfold (k210_11 ) i0 j a) 40 (i0 + j)) = 0) → zn 10000 ((Int32.ofNat (i0 + j)) + 1)) (g3 : ∀ j, j < n → zn 40 ((zfold (k210_11 ) i0 j a) 6 0)) (g4 : ∀ j, j < n → zA 40 40 ((zfold (k210_11 ) i0 j a) 41)) (g5 : ∀ j, j < n → zA 40 3 ((zfold (k210_11 ) i0 j a) 43)) : zt L 210 11 [some (.inr (.inr 0)), some (.inl (Int32.ofNat i0))] [] a (.inl (11, [some (.inr (.inr 0)), some (.inl (Int32.ofNat (i0 + n)))], [], (zfold (k210_11 ) i0 n a))) := by
  induction n with
  | zero => exact zt_rfl
  | succ n ih =>
    have e1 := zk_ix (i0 + n) (by omega)
    have e2 := zk_add (i0 + n)
    refine zt_trans (ih (by omega) (fun j hj => hc0 j (by omega)) (fun j hj => g0 j (by omega)) (fun j hj => g1 j (by omega)) (fun j hj => g2 j (by omega)) (fun j hj => g3 j (by omega)) (fun j hj => g4 j (by omega)) (fun j hj => g5 j (by omega))) ?_
    refine zt_cast (s210_11 (Int32.ofNat (i0 + n)) (zfold (k210_11 ) i0 n a) (by have hg := g0 n (by omega); first | exact hg | (simp only [e1]; exact hg)) (by have hg := g1 n (by omega); first | exact hg | (simp only [e1]; exact hg)) (by have hg := g2 n (by omega); first | exact hg | (simp only [e1]; exact hg)) (by have hg := g3 n (by omega); first | exact hg | (simp only [e1]; exact hg)) (by have hg := g4 n (by omega); first | exact hg | (simp only [e1]; exact hg)) (by have hg := g5 n (by omega); first | exact hg | (simp only [e1]; exact hg))) ?_
    rw [if_neg (show ¬ (((zfold (k210_11 ) i0 n a) 5 0) ≤ (Int32.ofNat (i0 + n))) from (by have hg := hc0 n (by omega); first | exact hg | (simp only [e1]; exact hg)))]
    simp only [zfold, k210_11, e1, e2, ← Nat.add_assoc]
set_option maxRecDepth 100000 in
theorem w_K54_6_5_2_S_41 (x2 : Int32) (i0 : Nat) (S : zS) : K54_6_5_2_S x2 i0 S 41 = S 41 := zfold_keep (f := (k54_6_5_2 x2 )) (fun (b : zS) => b 41) ((fun j b => by unfold k54_6_5_2; exact (show (if ((b 46 j) = 0) then (if ((b 40 (b 41 j).toNatClampNeg) = 0) then b else (G60 (Int32.ofNat j) (z_up b 44 j x2))) else b) 41 = b 41 from (zite_k (zite_k rfl ((w_G60_41 _ _).trans (zupc rfl))) rfl)))) _ _
set_option maxRecDepth 100000 in
theorem w_G200_41 (a : Int32) (S : zS) : G200 a S 41 = S 41 := (show (K54_6_5_2_S ((if ((S 40 a.toNatClampNeg) = 0) then (K129_18_S a 1 (a + 1).toNatClampNeg (z_up S 40 a.toNatClampNeg 1)) else S) 0 11) 0 (if ((S 40 a.toNatClampNeg) = 0) then (K129_18_S a 1 (a + 1).toNatClampNeg (z_up S 40 a.toNatClampNeg 1)) else S)) 41 = S 41 from ((w_K54_6_5_2_S_41 _ _ _).trans (zite_k ((w_K129_18_S_41 _ _ _ _).trans (zupc rfl)) rfl)))
set_option maxRecDepth 100000 in
theorem w_K54_6_5_2_S_43 (x2 : Int32) (i0 : Nat) (S : zS) : K54_6_5_2_S x2 i0 S 43 = S 43 := zfold_keep (f := (k54_6_5_2 x2 )) (fun (b : zS) => b 43) ((fun j b => by unfold k54_6_5_2; exact (show (if ((b 46 j) = 0) then (if ((b 40 (b 41 j).toNatClampNeg) = 0) then b else (G60 (Int32.ofNat j) (z_up b 44 j x2))) else b) 43 = b 43 from (zite_k (zite_k rfl ((w_G60_43 _ _).trans (zupc rfl))) rfl)))) _ _
set_option maxRecDepth 100000 in
theorem w_G200_43 (a : Int32) (S : zS) : G200 a S 43 = S 43 := (show (K54_6_5_2_S ((if ((S 40 a.toNatClampNeg) = 0) then (K129_18_S a 1 (a + 1).toNatClampNeg (z_up S 40 a.toNatClampNeg 1)) else S) 0 11) 0 (if ((S 40 a.toNatClampNeg) = 0) then (K129_18_S a 1 (a + 1).toNatClampNeg (z_up S 40 a.toNatClampNeg 1)) else S)) 43 = S 43 from ((w_K54_6_5_2_S_43 _ _ _).trans (zite_k ((w_K129_18_S_43 _ _ _ _).trans (zupc rfl)) rfl)))
set_option maxRecDepth 100000 in
theorem w_G60_5_0 (a : Int32) (S : zS) : G60 a S 5 0 = S 5 0 := (show (if ((S 48 (S 43 a.toNatClampNeg).toNatClampNeg) = 1) then (z_up (z_up S 47 a.toNatClampNeg ((S 47 a.toNatClampNeg) + 1)) 46 a.toNatClampNeg (if (3 ≤ ((S 47 a.toNatClampNeg) + 1)) then (3 : Int32) else 1)) else (z_up (z_up (z_up S 47 a.toNatClampNeg ((S 47 a.toNatClampNeg) + 1)) 49 (S 43 a.toNatClampNeg).toNatClampNeg ((S 49 (S 43 a.toNatClampNeg).toNatClampNeg) - 1)) 46 a.toNatClampNeg 2)) 5 0 = S 5 0 from (zite_rd ((zupci rfl).trans (zupci rfl)) ((zupci rfl).trans ((zupci rfl).trans (zupci rfl)))))
set_option maxRecDepth 100000 in
theorem w_K54_6_5_2_S_5_0 (x2 : Int32) (i0 : Nat) (S : zS) : K54_6_5_2_S x2 i0 S 5 0 = S 5 0 := zfold_keep (f := (k54_6_5_2 x2 )) (fun (b : zS) => b 5 0) ((fun j b => by unfold k54_6_5_2; exact (show (if ((b 46 j) = 0) then (if ((b 40 (b 41 j).toNatClampNeg) = 0) then b else (G60 (Int32.ofNat j) (z_up b 44 j x2))) else b) 5 0 = b 5 0 from (zite_rd (zite_rd rfl ((w_G60_5_0 _ _).trans (zupci rfl))) rfl)))) _ _
set_option maxRecDepth 100000 in
theorem w_K129_18_S_5_0 (x1 x2 : Int32) (i0 : Nat) (S : zS) : K129_18_S x1 x2 i0 S 5 0 = S 5 0 := zfold_keep (f := (k129_18 x1 )) (fun (b : Int32 × zS) => b.2 5 0) ((fun j b => by unfold k129_18; exact (show (if ((b.2 40 j) = 0) then (if ((F130 (Int32.ofNat j) b.2) = 0) then b.2 else (z_up b.2 40 j 1)) else b.2) 5 0 = b.2 5 0 from (zite_rd (zite_rd rfl (zupci rfl)) rfl)))) _ _
set_option maxRecDepth 100000 in
theorem w_G200_5_0 (a : Int32) (S : zS) : G200 a S 5 0 = S 5 0 := (show (K54_6_5_2_S ((if ((S 40 a.toNatClampNeg) = 0) then (K129_18_S a 1 (a + 1).toNatClampNeg (z_up S 40 a.toNatClampNeg 1)) else S) 0 11) 0 (if ((S 40 a.toNatClampNeg) = 0) then (K129_18_S a 1 (a + 1).toNatClampNeg (z_up S 40 a.toNatClampNeg 1)) else S)) 5 0 = S 5 0 from ((w_K54_6_5_2_S_5_0 _ _ _).trans (zite_rd ((w_K129_18_S_5_0 _ _ _ _).trans (zupci rfl)) rfl)))
set_option maxRecDepth 100000 in
theorem w_K54_6_5_2_S_6_0 (x2 : Int32) (i0 : Nat) (S : zS) : K54_6_5_2_S x2 i0 S 6 0 = S 6 0 := zfold_keep (f := (k54_6_5_2 x2 )) (fun (b : zS) => b 6 0) ((fun j b => by unfold k54_6_5_2; exact (show (if ((b 46 j) = 0) then (if ((b 40 (b 41 j).toNatClampNeg) = 0) then b else (G60 (Int32.ofNat j) (z_up b 44 j x2))) else b) 6 0 = b 6 0 from (zite_rd (zite_rd rfl ((w_G60_6_0 _ _).trans (zupci rfl))) rfl)))) _ _
set_option maxRecDepth 100000 in
theorem w_G200_6_0 (a : Int32) (S : zS) : G200 a S 6 0 = S 6 0 := (show (K54_6_5_2_S ((if ((S 40 a.toNatClampNeg) = 0) then (K129_18_S a 1 (a + 1).toNatClampNeg (z_up S 40 a.toNatClampNeg 1)) else S) 0 11) 0 (if ((S 40 a.toNatClampNeg) = 0) then (K129_18_S a 1 (a + 1).toNatClampNeg (z_up S 40 a.toNatClampNeg 1)) else S)) 6 0 = S 6 0 from ((w_K54_6_5_2_S_6_0 _ _ _).trans (zite_rd ((w_K129_18_S_6_0 _ _ _ _).trans (zupci rfl)) rfl)))
def K210_11 (i0 : Nat) (S : zS) : zS := zfold (k210_11 ) i0 ((S 5 0).toNatClampNeg - i0) S
def K210_11_S (i0 : Nat) (S : zS) : zS := (K210_11  i0 S)
set_option maxRecDepth 100000 in
theorem L210_11 {L : Nat} (i0 : Nat) (S : zS) (hi : i0 ≤ 10000) (h0 : zn 40 (S 5 0)) (hz1 : zn 40 (S 6 0)) (hp2 : zA 40 40 (S 41)) (hp3 : zA 40 3 (S 43)) : zt L 210 11 [some (.inr (.inr 0)), some (.inl (Int32.ofNat i0))] [] S (.inl (34, [some (.inr (.inr 0)), some (.inl (Int32.ofNat (i0 + ((S 5 0).toNatClampNeg - i0))))], [], (K210_11_S  i0 S))) := by
  have hk41 : ∀ n, (zfold (k210_11 ) i0 n S) 41 = S 41 := fun n => zfold_keep (f := (k210_11 )) (fun (b : zS) => b 41) (fun j b => by unfold k210_11; exact (show (if ((b 40 j) = 0) then (if ((b 34 j) = (b 0 11)) then (G200 (Int32.ofNat j) b) else b) else b) 41 = b 41 from (zite_k (zite_k (w_G200_41 _ _) rfl) rfl))) n S
  have hk43 : ∀ n, (zfold (k210_11 ) i0 n S) 43 = S 43 := fun n => zfold_keep (f := (k210_11 )) (fun (b : zS) => b 43) (fun j b => by unfold k210_11; exact (show (if ((b 40 j) = 0) then (if ((b 34 j) = (b 0 11)) then (G200 (Int32.ofNat j) b) else b) else b) 43 = b 43 from (zite_k (zite_k (w_G200_43 _ _) rfl) rfl))) n S
  have hk5_0 : ∀ n, (zfold (k210_11 ) i0 n S) 5 0 = S 5 0 := fun n => zfold_keep (f := (k210_11 )) (fun (b : zS) => b 5 0) (fun j b => by unfold k210_11; exact (show (if ((b 40 j) = 0) then (if ((b 34 j) = (b 0 11)) then (G200 (Int32.ofNat j) b) else b) else b) 5 0 = b 5 0 from (zite_rd (zite_rd (w_G200_5_0 _ _) rfl) rfl))) n S
  have hk6_0 : ∀ n, (zfold (k210_11 ) i0 n S) 6 0 = S 6 0 := fun n => zfold_keep (f := (k210_11 )) (fun (b : zS) => b 6 0) (fun j b => by unfold k210_11; exact (show (if ((b 40 j) = 0) then (if ((b 34 j) = (b 0 11)) then (G200 (Int32.ofNat j) b) else b) else b) 6 0 = b 6 0 from (zite_rd (zite_rd (w_G200_6_0 _ _) rfl) rfl))) n S
  have hend : (zfold (k210_11 ) i0 ((S 5 0).toNatClampNeg - i0) S) 5 0 ≤ Int32.ofNat (i0 + ((S 5 0).toNatClampNeg - i0)) := by rw [hk5_0]; exact zc_le_end h0 (by omega)
  refine zt_trans (l210_11    i0 ((S 5 0).toNatClampNeg - i0) S (by have := zn_cl h0; omega) (fun j hj => by rw [hk5_0]; exact zc_le h0 hj (by omega)) (fun j hj _ => by exact zx_of (by have := zn_cl h0; omega) (by have := zn_cl h0; omega)) (fun j hj  => by rw [hk5_0 j]; exact h0) (fun j hj _ _ _ _ => by have := zn_cl h0; rw [zk_add]; exact zn_of (by omega)) (fun j hj  => by rw [hk6_0 j]; exact hz1) (fun j hj  => by exact zpc1 (hk41 j) hp2) (fun j hj  => by exact zpc1 (hk43 j) hp3)) ?_
  exact zt_cast (s210_11 (Int32.ofNat (i0 + ((S 5 0).toNatClampNeg - i0))) (zfold (k210_11 ) i0 ((S 5 0).toNatClampNeg - i0) S) (fun h9 => absurd hend h9) (by rw [hk5_0 _]; exact h0) (fun h9 => absurd hend h9) (by rw [hk6_0 _]; exact hz1) (by exact zpc1 (hk41 _) hp2) (by exact zpc1 (hk43 _) hp3)) (if_pos hend)
set_option maxRecDepth 100000 in
theorem w_K13_2_S_5_0 (i0 : Nat) (S : zS) : K13_2_S  i0 S 5 0 = S 5 0 := zfold_keep (f := (k13_2 )) (fun (b : zS) => b 5 0) ((fun j b => by unfold k13_2; exact (show (z_up b 19 j 0) 5 0 = b 5 0 from (zupci rfl)))) _ _
set_option maxRecDepth 100000 in
theorem w_K13_2_S_6_0 (i0 : Nat) (S : zS) : K13_2_S  i0 S 6 0 = S 6 0 := zfold_keep (f := (k13_2 )) (fun (b : zS) => b 6 0) ((fun j b => by unfold k13_2; exact (show (z_up b 19 j 0) 6 0 = b 6 0 from (zupci rfl)))) _ _
set_option maxRecDepth 100000 in
theorem w_K13_2_S_41 (i0 : Nat) (S : zS) : K13_2_S  i0 S 41 = S 41 := zfold_keep (f := (k13_2 )) (fun (b : zS) => b 41) ((fun j b => by unfold k13_2; exact (show (z_up b 19 j 0) 41 = b 41 from (zupc rfl)))) _ _
set_option maxRecDepth 100000 in
theorem w_K13_2_S_43 (i0 : Nat) (S : zS) : K13_2_S  i0 S 43 = S 43 := zfold_keep (f := (k13_2 )) (fun (b : zS) => b 43) ((fun j b => by unfold k13_2; exact (show (z_up b 19 j 0) 43 = b 43 from (zupc rfl)))) _ _
set_option maxRecDepth 100000 in
theorem w_K210_11_S_6_0 (i0 : Nat) (S : zS) : K210_11_S  i0 S 6 0 = S 6 0 := zfold_keep (f := (k210_11 )) (fun (b : zS) => b 6 0) ((fun j b => by unfold k210_11; exact (show (if ((b 40 j) = 0) then (if ((b 34 j) = (b 0 11)) then (G200 (Int32.ofNat j) b) else b) else b) 6 0 = b 6 0 from (zite_rd (zite_rd (w_G200_6_0 _ _) rfl) rfl)))) _ _
set_option maxRecDepth 100000 in
theorem w_K210_11_S_43 (i0 : Nat) (S : zS) : K210_11_S  i0 S 43 = S 43 := zfold_keep (f := (k210_11 )) (fun (b : zS) => b 43) ((fun j b => by unfold k210_11; exact (show (if ((b 40 j) = 0) then (if ((b 34 j) = (b 0 11)) then (G200 (Int32.ofNat j) b) else b) else b) 43 = b 43 from (zite_k (zite_k (w_G200_43 _ _) rfl) rfl)))) _ _
def G210 (S : zS) : zS := (K57_2_S 0 (K56_2_S ((K55_2_S ((K210_11_S 0 (K13_2_S 0 (z_up S 0 11 ((S 0 11) + 1)))) 0 11) 0 (K210_11_S 0 (K13_2_S 0 (z_up S 0 11 ((S 0 11) + 1))))) 0 11) 0 (K55_2_S ((K210_11_S 0 (K13_2_S 0 (z_up S 0 11 ((S 0 11) + 1)))) 0 11) 0 (K210_11_S 0 (K13_2_S 0 (z_up S 0 11 ((S 0 11) + 1)))))))
set_option maxRecDepth 100000 in
theorem f210 {L : Nat} (S : zS) (g0 : zn 40 (S 5 0)) (g1 : zn 40 (S 6 0)) (g2 : zA 40 40 (S 41)) (g3 : zA 40 3 (S 43)) : zf L 210 [.inr (.inr 0)] S (.inl none, (G210 S), 0) := zf_of (en_210 _) (zr_2_0 i210_0 (zr_14r i210_1 (zr_6 i210_2 fl_0_11 rfl (zr_0 i210_3 kc_1 (zr_13_0 i210_4 (zr_7 i210_5 fl_0_11 (zr_2_0 i210_6 (zr_6r i210_7 fl_0_2 (zr_cn (zs_21_0 i210_8 na_13 ob_3 rfl) (f13  (z_up S 0 11 ((S 0 11) + 1)) ) (zr_0 i210_9 kc_0 (zr_3_1 i210_10 (zt_trans (L210_11  0 (K13_2_S 0 (z_up S 0 11 ((S 0 11) + 1))) (by decide) (znv ((w_K13_2_S_5_0 _ _).trans (zupci rfl)) (g0)) (znv ((w_K13_2_S_6_0 _ _).trans (zupci rfl)) (g1)) (zpc1 ((w_K13_2_S_41 _ _).trans (zupc rfl)) (g2)) (zpc1 ((w_K13_2_S_43 _ _).trans (zupc rfl)) (g3))) (zr_2_0 i210_34 (zr_6r i210_35 fl_0_5 (zr_2_0 i210_36 (zr_6 i210_37 fl_0_11 rfl (zr_cn (zs_21_1 i210_38 na_55 ob_6 rfl) (f55 ((K210_11_S 0 (K13_2_S 0 (z_up S 0 11 ((S 0 11) + 1)))) 0 11) (K210_11_S 0 (K13_2_S 0 (z_up S 0 11 ((S 0 11) + 1)))) (znv ((w_K210_11_S_6_0 _ _).trans ((w_K13_2_S_6_0 _ _).trans (zupci rfl))) (g1)) (zpc1 ((w_K210_11_S_43 _ _).trans ((w_K13_2_S_43 _ _).trans (zupc rfl))) (g3))) (zr_2_0 i210_39 (zr_6r i210_40 fl_0_5 (zr_2_0 i210_41 (zr_6 i210_42 fl_0_11 rfl (zr_cn (zs_21_1 i210_43 na_56 ob_6 rfl) (f56 ((K55_2_S ((K210_11_S 0 (K13_2_S 0 (z_up S 0 11 ((S 0 11) + 1)))) 0 11) 0 (K210_11_S 0 (K13_2_S 0 (z_up S 0 11 ((S 0 11) + 1))))) 0 11) (K55_2_S ((K210_11_S 0 (K13_2_S 0 (z_up S 0 11 ((S 0 11) + 1)))) 0 11) 0 (K210_11_S 0 (K13_2_S 0 (z_up S 0 11 ((S 0 11) + 1))))) (znv ((w_K55_2_S_6_0 _ _ _).trans ((w_K210_11_S_6_0 _ _).trans ((w_K13_2_S_6_0 _ _).trans (zupci rfl)))) (g1)) (zpc1 ((w_K55_2_S_43 _ _ _).trans ((w_K210_11_S_43 _ _).trans ((w_K13_2_S_43 _ _).trans (zupc rfl)))) (g3))) (zr_2_0 i210_44 (zr_6r i210_45 fl_0_5 (zr_cn (zs_21_0 i210_46 na_57 ob_6 rfl) (f57  (K56_2_S ((K55_2_S ((K210_11_S 0 (K13_2_S 0 (z_up S 0 11 ((S 0 11) + 1)))) 0 11) 0 (K210_11_S 0 (K13_2_S 0 (z_up S 0 11 ((S 0 11) + 1))))) 0 11) 0 (K55_2_S ((K210_11_S 0 (K13_2_S 0 (z_up S 0 11 ((S 0 11) + 1)))) 0 11) 0 (K210_11_S 0 (K13_2_S 0 (z_up S 0 11 ((S 0 11) + 1)))))) ) (zr_27 i210_47))))))))))))))))))))))))))
