/-! the law: its helpers, its cases (wip/whole/gen/gen19.py) -/
theorem i324_0 : zi 324 0 1 2 0 0 := by decide +kernel
theorem i324_1 : zi 324 1 2 1 1 0 := by decide +kernel
theorem i324_2 : zi 324 2 3 1 2 0 := by decide +kernel
theorem i324_3 : zi 324 3 4 1 3 0 := by decide +kernel
theorem i324_4 : zi 324 4 5 32 131 11 := by decide +kernel
theorem na_131 : z_na 131 = 3 := by decide +kernel
theorem i324_5 : zi 324 5 6 17 12 0 := by decide +kernel
theorem i324_12 : zi 324 12 13 0 0 0 := by decide +kernel
theorem i324_13 : zi 324 13 14 25 0 0 := by decide +kernel
theorem hd_324_2 : z_hd (z_th 324) 2 = some 2 := by decide +kernel
theorem hd_324_1 : z_hd (z_th 324) 1 = some 1 := by decide +kernel
theorem ml_324 : z_ml 324 = 5 := by decide +kernel
theorem en_324 : ∀ (v0 v1 v2 v3 : zV), z_ent 324 [v0, v1, v2, v3] = [some v0, some v1, some v2, some v3, none] := fun v0 v1 v2 v3 => by unfold z_ent; rw [ml_324]; rfl
theorem i325_0 : zi 325 0 1 2 2 0 := by decide +kernel
theorem i325_1 : zi 325 1 2 0 0 0 := by decide +kernel
theorem i325_2 : zi 325 2 3 2 0 0 := by decide +kernel
theorem i325_3 : zi 325 3 4 1 1 0 := by decide +kernel
theorem i325_4 : zi 325 4 5 32 132 11 := by decide +kernel
theorem na_132 : z_na 132 = 1 := by decide +kernel
theorem i325_5 : zi 325 5 6 30 0 0 := by decide +kernel
theorem i325_6 : zi 325 6 7 31 0 0 := by decide +kernel
theorem zx_1_0 : zx 1 0 := by unfold zx; decide
theorem ar_148 : zar 148 2 1 := by decide +kernel
theorem i325_7 : zi 325 7 8 17 11 0 := by decide +kernel
theorem i325_11 : zi 325 11 12 0 0 0 := by decide +kernel
theorem i325_12 : zi 325 12 13 25 0 0 := by decide +kernel
theorem hd_325_0 : z_hd (z_th 325) 0 = some 1 := by decide +kernel
theorem ml_325 : z_ml 325 = 4 := by decide +kernel
theorem en_325 : ∀ (v0 v1 v2 : zV), z_ent 325 [v0, v1, v2] = [some v0, some v1, some v2, none] := fun v0 v1 v2 => by unfold z_ent; rw [ml_325]; rfl
theorem i326_0 : zi 326 0 1 2 3 0 := by decide +kernel
theorem i326_1 : zi 326 1 2 0 0 0 := by decide +kernel
theorem i326_2 : zi 326 2 3 2 0 0 := by decide +kernel
theorem i326_3 : zi 326 3 4 1 1 0 := by decide +kernel
theorem i326_4 : zi 326 4 5 1 2 0 := by decide +kernel
theorem i326_5 : zi 326 5 6 32 133 11 := by decide +kernel
theorem na_133 : z_na 133 = 2 := by decide +kernel
theorem i326_6 : zi 326 6 7 30 0 0 := by decide +kernel
theorem i326_7 : zi 326 7 8 31 0 0 := by decide +kernel
theorem i326_8 : zi 326 8 9 17 18 0 := by decide +kernel
theorem i326_18 : zi 326 18 19 0 0 0 := by decide +kernel
theorem i326_19 : zi 326 19 20 25 0 0 := by decide +kernel
theorem hd_326_2 : z_hd (z_th 326) 2 = some 3 := by decide +kernel
theorem hd_326_1 : z_hd (z_th 326) 1 = some 2 := by decide +kernel
theorem hd_326_0 : z_hd (z_th 326) 0 = some 1 := by decide +kernel
theorem ml_326 : z_ml 326 = 5 := by decide +kernel
theorem en_326 : ∀ (v0 v1 v2 v3 : zV), z_ent 326 [v0, v1, v2, v3] = [some v0, some v1, some v2, some v3, none] := fun v0 v1 v2 v3 => by unfold z_ent; rw [ml_326]; rfl
theorem i327_0 : zi 327 0 1 2 0 0 := by decide +kernel
theorem i327_1 : zi 327 1 2 1 1 0 := by decide +kernel
theorem i327_2 : zi 327 2 3 1 2 0 := by decide +kernel
theorem i327_3 : zi 327 3 4 1 3 0 := by decide +kernel
theorem i327_4 : zi 327 4 5 32 136 11 := by decide +kernel
theorem na_136 : z_na 136 = 3 := by decide +kernel
theorem i327_5 : zi 327 5 6 17 12 0 := by decide +kernel
theorem i327_12 : zi 327 12 13 0 0 0 := by decide +kernel
theorem i327_13 : zi 327 13 14 25 0 0 := by decide +kernel
theorem hd_327_2 : z_hd (z_th 327) 2 = some 2 := by decide +kernel
theorem hd_327_1 : z_hd (z_th 327) 1 = some 1 := by decide +kernel
theorem ml_327 : z_ml 327 = 5 := by decide +kernel
theorem en_327 : ∀ (v0 v1 v2 v3 : zV), z_ent 327 [v0, v1, v2, v3] = [some v0, some v1, some v2, some v3, none] := fun v0 v1 v2 v3 => by unfold z_ent; rw [ml_327]; rfl
theorem i328_0 : zi 328 0 1 2 3 0 := by decide +kernel
theorem i328_1 : zi 328 1 2 0 0 0 := by decide +kernel
theorem i328_2 : zi 328 2 3 2 0 0 := by decide +kernel
theorem i328_3 : zi 328 3 4 1 1 0 := by decide +kernel
theorem i328_4 : zi 328 4 5 1 2 0 := by decide +kernel
theorem i328_5 : zi 328 5 6 32 137 11 := by decide +kernel
theorem na_137 : z_na 137 = 2 := by decide +kernel
theorem i328_6 : zi 328 6 7 30 0 0 := by decide +kernel
theorem i328_7 : zi 328 7 8 31 0 0 := by decide +kernel
theorem i328_8 : zi 328 8 9 17 18 0 := by decide +kernel
theorem i328_18 : zi 328 18 19 0 0 0 := by decide +kernel
theorem i328_19 : zi 328 19 20 25 0 0 := by decide +kernel
theorem hd_328_2 : z_hd (z_th 328) 2 = some 3 := by decide +kernel
theorem hd_328_1 : z_hd (z_th 328) 1 = some 2 := by decide +kernel
theorem hd_328_0 : z_hd (z_th 328) 0 = some 1 := by decide +kernel
theorem ml_328 : z_ml 328 = 5 := by decide +kernel
theorem en_328 : ∀ (v0 v1 v2 v3 : zV), z_ent 328 [v0, v1, v2, v3] = [some v0, some v1, some v2, some v3, none] := fun v0 v1 v2 v3 => by unfold z_ent; rw [ml_328]; rfl
theorem i329_0 : zi 329 0 1 2 0 0 := by decide +kernel
theorem i329_1 : zi 329 1 2 1 1 0 := by decide +kernel
theorem i329_2 : zi 329 2 3 1 2 0 := by decide +kernel
theorem i329_3 : zi 329 3 4 32 138 11 := by decide +kernel
theorem na_138 : z_na 138 = 2 := by decide +kernel
theorem i329_4 : zi 329 4 5 17 8 0 := by decide +kernel
theorem i329_8 : zi 329 8 9 0 0 0 := by decide +kernel
theorem i329_9 : zi 329 9 10 25 0 0 := by decide +kernel
theorem hd_329_1 : z_hd (z_th 329) 1 = some 1 := by decide +kernel
theorem ml_329 : z_ml 329 = 4 := by decide +kernel
theorem en_329 : ∀ (v0 v1 v2 : zV), z_ent 329 [v0, v1, v2] = [some v0, some v1, some v2, none] := fun v0 v1 v2 => by unfold z_ent; rw [ml_329]; rfl
theorem i330_0 : zi 330 0 1 2 2 0 := by decide +kernel
theorem i330_1 : zi 330 1 2 0 0 0 := by decide +kernel
theorem i330_2 : zi 330 2 3 2 0 0 := by decide +kernel
theorem i330_3 : zi 330 3 4 1 1 0 := by decide +kernel
theorem i330_4 : zi 330 4 5 32 140 11 := by decide +kernel
theorem na_140 : z_na 140 = 1 := by decide +kernel
theorem i330_5 : zi 330 5 6 30 0 0 := by decide +kernel
theorem i330_6 : zi 330 6 7 31 0 0 := by decide +kernel
theorem i330_7 : zi 330 7 8 17 11 0 := by decide +kernel
theorem i330_11 : zi 330 11 12 0 0 0 := by decide +kernel
theorem i330_12 : zi 330 12 13 25 0 0 := by decide +kernel
theorem hd_330_1 : z_hd (z_th 330) 1 = some 1 := by decide +kernel
theorem ml_330 : z_ml 330 = 4 := by decide +kernel
theorem en_330 : ∀ (v0 v1 v2 : zV), z_ent 330 [v0, v1, v2] = [some v0, some v1, some v2, none] := fun v0 v1 v2 => by unfold z_ent; rw [ml_330]; rfl
theorem i331_0 : zi 331 0 1 2 2 0 := by decide +kernel
theorem i331_1 : zi 331 1 2 0 0 0 := by decide +kernel
theorem i331_2 : zi 331 2 3 2 0 0 := by decide +kernel
theorem i331_3 : zi 331 3 4 1 1 0 := by decide +kernel
theorem i331_4 : zi 331 4 5 32 141 11 := by decide +kernel
theorem na_141 : z_na 141 = 1 := by decide +kernel
theorem i331_5 : zi 331 5 6 30 0 0 := by decide +kernel
theorem i331_6 : zi 331 6 7 31 0 0 := by decide +kernel
theorem i331_7 : zi 331 7 8 17 14 0 := by decide +kernel
theorem i331_14 : zi 331 14 15 0 0 0 := by decide +kernel
theorem i331_15 : zi 331 15 16 25 0 0 := by decide +kernel
theorem hd_331_2 : z_hd (z_th 331) 2 = some 2 := by decide +kernel
theorem hd_331_1 : z_hd (z_th 331) 1 = some 1 := by decide +kernel
theorem ml_331 : z_ml 331 = 4 := by decide +kernel
theorem en_331 : ∀ (v0 v1 v2 : zV), z_ent 331 [v0, v1, v2] = [some v0, some v1, some v2, none] := fun v0 v1 v2 => by unfold z_ent; rw [ml_331]; rfl
theorem i332_0 : zi 332 0 1 2 0 0 := by decide +kernel
theorem i332_1 : zi 332 1 2 1 1 0 := by decide +kernel
theorem i332_2 : zi 332 2 3 1 2 0 := by decide +kernel
theorem i332_3 : zi 332 3 4 1 3 0 := by decide +kernel
theorem i332_4 : zi 332 4 5 32 143 11 := by decide +kernel
theorem na_143 : z_na 143 = 3 := by decide +kernel
theorem i332_5 : zi 332 5 6 17 12 0 := by decide +kernel
theorem i332_12 : zi 332 12 13 0 0 0 := by decide +kernel
theorem i332_13 : zi 332 13 14 25 0 0 := by decide +kernel
theorem hd_332_2 : z_hd (z_th 332) 2 = some 2 := by decide +kernel
theorem hd_332_1 : z_hd (z_th 332) 1 = some 1 := by decide +kernel
theorem ml_332 : z_ml 332 = 5 := by decide +kernel
theorem en_332 : ∀ (v0 v1 v2 v3 : zV), z_ent 332 [v0, v1, v2, v3] = [some v0, some v1, some v2, some v3, none] := fun v0 v1 v2 v3 => by unfold z_ent; rw [ml_332]; rfl
theorem i333_0 : zi 333 0 1 2 3 0 := by decide +kernel
theorem i333_1 : zi 333 1 2 0 0 0 := by decide +kernel
theorem i333_2 : zi 333 2 3 2 0 0 := by decide +kernel
theorem i333_3 : zi 333 3 4 1 1 0 := by decide +kernel
theorem i333_4 : zi 333 4 5 1 2 0 := by decide +kernel
theorem i333_5 : zi 333 5 6 32 144 11 := by decide +kernel
theorem na_144 : z_na 144 = 2 := by decide +kernel
theorem i333_6 : zi 333 6 7 30 0 0 := by decide +kernel
theorem i333_7 : zi 333 7 8 31 0 0 := by decide +kernel
theorem i333_8 : zi 333 8 9 17 12 0 := by decide +kernel
theorem i333_12 : zi 333 12 13 0 0 0 := by decide +kernel
theorem i333_13 : zi 333 13 14 25 0 0 := by decide +kernel
theorem hd_333_1 : z_hd (z_th 333) 1 = some 1 := by decide +kernel
theorem ml_333 : z_ml 333 = 5 := by decide +kernel
theorem en_333 : ∀ (v0 v1 v2 v3 : zV), z_ent 333 [v0, v1, v2, v3] = [some v0, some v1, some v2, some v3, none] := fun v0 v1 v2 v3 => by unfold z_ent; rw [ml_333]; rfl
theorem i334_0 : zi 334 0 1 2 7 0 := by decide +kernel
theorem i334_1 : zi 334 1 2 0 0 0 := by decide +kernel
theorem i334_2 : zi 334 2 3 2 0 0 := by decide +kernel
theorem i334_3 : zi 334 3 4 1 1 0 := by decide +kernel
theorem i334_4 : zi 334 4 5 1 2 0 := by decide +kernel
theorem i334_5 : zi 334 5 6 1 3 0 := by decide +kernel
theorem i334_6 : zi 334 6 7 1 4 0 := by decide +kernel
theorem i334_7 : zi 334 7 8 1 5 0 := by decide +kernel
theorem i334_8 : zi 334 8 9 1 6 0 := by decide +kernel
theorem i334_9 : zi 334 9 10 32 145 11 := by decide +kernel
theorem na_145 : z_na 145 = 6 := by decide +kernel
theorem i334_10 : zi 334 10 11 30 0 0 := by decide +kernel
theorem i334_11 : zi 334 11 12 31 0 0 := by decide +kernel
theorem i334_12 : zi 334 12 13 17 22 0 := by decide +kernel
theorem i334_22 : zi 334 22 23 0 0 0 := by decide +kernel
theorem i334_23 : zi 334 23 24 25 0 0 := by decide +kernel
theorem hd_334_2 : z_hd (z_th 334) 2 = some 3 := by decide +kernel
theorem hd_334_1 : z_hd (z_th 334) 1 = some 2 := by decide +kernel
theorem hd_334_0 : z_hd (z_th 334) 0 = some 1 := by decide +kernel
theorem ml_334 : z_ml 334 = 9 := by decide +kernel
theorem en_334 : ∀ (v0 v1 v2 v3 v4 v5 v6 v7 : zV), z_ent 334 [v0, v1, v2, v3, v4, v5, v6, v7] = [some v0, some v1, some v2, some v3, some v4, some v5, some v6, some v7, none] := fun v0 v1 v2 v3 v4 v5 v6 v7 => by unfold z_ent; rw [ml_334]; rfl
theorem i335_0 : zi 335 0 1 2 2 0 := by decide +kernel
theorem i335_1 : zi 335 1 2 0 0 0 := by decide +kernel
theorem i335_2 : zi 335 2 3 2 0 0 := by decide +kernel
theorem i335_3 : zi 335 3 4 1 1 0 := by decide +kernel
theorem i335_4 : zi 335 4 5 32 146 11 := by decide +kernel
theorem na_146 : z_na 146 = 1 := by decide +kernel
theorem i335_5 : zi 335 5 6 30 0 0 := by decide +kernel
theorem i335_6 : zi 335 6 7 31 0 0 := by decide +kernel
theorem i335_7 : zi 335 7 8 17 11 0 := by decide +kernel
theorem i335_11 : zi 335 11 12 0 0 0 := by decide +kernel
theorem i335_12 : zi 335 12 13 25 0 0 := by decide +kernel
theorem hd_335_0 : z_hd (z_th 335) 0 = some 1 := by decide +kernel
theorem ml_335 : z_ml 335 = 4 := by decide +kernel
theorem en_335 : ∀ (v0 v1 v2 : zV), z_ent 335 [v0, v1, v2] = [some v0, some v1, some v2, none] := fun v0 v1 v2 => by unfold z_ent; rw [ml_335]; rfl
theorem i336_0 : zi 336 0 1 2 4 0 := by decide +kernel
theorem i336_1 : zi 336 1 2 0 0 0 := by decide +kernel
theorem i336_2 : zi 336 2 3 2 0 0 := by decide +kernel
theorem i336_3 : zi 336 3 4 1 1 0 := by decide +kernel
theorem i336_4 : zi 336 4 5 1 2 0 := by decide +kernel
theorem i336_5 : zi 336 5 6 1 3 0 := by decide +kernel
theorem i336_6 : zi 336 6 7 32 147 11 := by decide +kernel
theorem na_147 : z_na 147 = 3 := by decide +kernel
theorem i336_7 : zi 336 7 8 30 0 0 := by decide +kernel
theorem i336_8 : zi 336 8 9 31 0 0 := by decide +kernel
theorem i336_9 : zi 336 9 10 17 16 0 := by decide +kernel
theorem i336_16 : zi 336 16 17 0 0 0 := by decide +kernel
theorem i336_17 : zi 336 17 18 25 0 0 := by decide +kernel
theorem hd_336_1 : z_hd (z_th 336) 1 = some 2 := by decide +kernel
theorem hd_336_0 : z_hd (z_th 336) 0 = some 1 := by decide +kernel
theorem ml_336 : z_ml 336 = 6 := by decide +kernel
theorem en_336 : ∀ (v0 v1 v2 v3 v4 : zV), z_ent 336 [v0, v1, v2, v3, v4] = [some v0, some v1, some v2, some v3, some v4, none] := fun v0 v1 v2 v3 v4 => by unfold z_ent; rw [ml_336]; rfl
theorem i337_0 : zi 337 0 1 2 4 0 := by decide +kernel
theorem i337_1 : zi 337 1 2 0 0 0 := by decide +kernel
theorem i337_2 : zi 337 2 3 2 0 0 := by decide +kernel
theorem i337_3 : zi 337 3 4 1 1 0 := by decide +kernel
theorem i337_4 : zi 337 4 5 1 2 0 := by decide +kernel
theorem i337_5 : zi 337 5 6 1 3 0 := by decide +kernel
theorem i337_6 : zi 337 6 7 32 148 11 := by decide +kernel
theorem na_148 : z_na 148 = 3 := by decide +kernel
theorem i337_7 : zi 337 7 8 30 0 0 := by decide +kernel
theorem i337_8 : zi 337 8 9 31 0 0 := by decide +kernel
theorem i337_9 : zi 337 9 10 17 13 0 := by decide +kernel
theorem i337_13 : zi 337 13 14 0 0 0 := by decide +kernel
theorem i337_14 : zi 337 14 15 25 0 0 := by decide +kernel
theorem hd_337_0 : z_hd (z_th 337) 0 = some 1 := by decide +kernel
theorem ml_337 : z_ml 337 = 6 := by decide +kernel
theorem en_337 : ∀ (v0 v1 v2 v3 v4 : zV), z_ent 337 [v0, v1, v2, v3, v4] = [some v0, some v1, some v2, some v3, some v4, none] := fun v0 v1 v2 v3 v4 => by unfold z_ent; rw [ml_337]; rfl
theorem i338_0 : zi 338 0 1 2 3 0 := by decide +kernel
theorem i338_1 : zi 338 1 2 0 0 0 := by decide +kernel
theorem i338_2 : zi 338 2 3 2 0 0 := by decide +kernel
theorem i338_3 : zi 338 3 4 1 1 0 := by decide +kernel
theorem i338_4 : zi 338 4 5 1 2 0 := by decide +kernel
theorem i338_5 : zi 338 5 6 32 149 11 := by decide +kernel
theorem na_149 : z_na 149 = 2 := by decide +kernel
theorem i338_6 : zi 338 6 7 30 0 0 := by decide +kernel
theorem i338_7 : zi 338 7 8 31 0 0 := by decide +kernel
theorem i338_8 : zi 338 8 9 17 15 0 := by decide +kernel
theorem i338_15 : zi 338 15 16 0 0 0 := by decide +kernel
theorem i338_16 : zi 338 16 17 25 0 0 := by decide +kernel
theorem hd_338_1 : z_hd (z_th 338) 1 = some 2 := by decide +kernel
theorem hd_338_0 : z_hd (z_th 338) 0 = some 1 := by decide +kernel
theorem ml_338 : z_ml 338 = 5 := by decide +kernel
theorem en_338 : ∀ (v0 v1 v2 v3 : zV), z_ent 338 [v0, v1, v2, v3] = [some v0, some v1, some v2, some v3, none] := fun v0 v1 v2 v3 => by unfold z_ent; rw [ml_338]; rfl
theorem i339_0 : zi 339 0 1 2 5 0 := by decide +kernel
theorem i339_1 : zi 339 1 2 0 0 0 := by decide +kernel
theorem i339_2 : zi 339 2 3 2 0 0 := by decide +kernel
theorem i339_3 : zi 339 3 4 1 1 0 := by decide +kernel
theorem i339_4 : zi 339 4 5 1 2 0 := by decide +kernel
theorem i339_5 : zi 339 5 6 1 3 0 := by decide +kernel
theorem i339_6 : zi 339 6 7 1 4 0 := by decide +kernel
theorem i339_7 : zi 339 7 8 32 150 11 := by decide +kernel
theorem na_150 : z_na 150 = 4 := by decide +kernel
theorem i339_8 : zi 339 8 9 18 11 0 := by decide +kernel
theorem i339_9 : zi 339 9 10 39 0 1 := by decide +kernel
theorem i339_10 : zi 339 10 11 17 12 0 := by decide +kernel
theorem i339_11 : zi 339 11 12 39 0 0 := by decide +kernel
theorem i339_12 : zi 339 12 13 31 0 0 := by decide +kernel
theorem i339_13 : zi 339 13 14 17 17 0 := by decide +kernel
theorem i339_17 : zi 339 17 18 0 0 0 := by decide +kernel
theorem i339_18 : zi 339 18 19 25 0 0 := by decide +kernel
theorem hd_339_0 : z_hd (z_th 339) 0 = some 1 := by decide +kernel
theorem ml_339 : z_ml 339 = 7 := by decide +kernel
theorem en_339 : ∀ (v0 v1 v2 v3 v4 v5 : zV), z_ent 339 [v0, v1, v2, v3, v4, v5] = [some v0, some v1, some v2, some v3, some v4, some v5, none] := fun v0 v1 v2 v3 v4 v5 => by unfold z_ent; rw [ml_339]; rfl
theorem i340_0 : zi 340 0 1 2 3 0 := by decide +kernel
theorem i340_1 : zi 340 1 2 0 0 0 := by decide +kernel
theorem i340_2 : zi 340 2 3 2 0 0 := by decide +kernel
theorem i340_3 : zi 340 3 4 1 1 0 := by decide +kernel
theorem i340_4 : zi 340 4 5 1 2 0 := by decide +kernel
theorem i340_5 : zi 340 5 6 32 151 11 := by decide +kernel
theorem na_151 : z_na 151 = 2 := by decide +kernel
theorem i340_6 : zi 340 6 7 30 0 0 := by decide +kernel
theorem i340_7 : zi 340 7 8 31 0 0 := by decide +kernel
theorem i340_8 : zi 340 8 9 17 12 0 := by decide +kernel
theorem i340_12 : zi 340 12 13 0 0 0 := by decide +kernel
theorem i340_13 : zi 340 13 14 25 0 0 := by decide +kernel
theorem hd_340_0 : z_hd (z_th 340) 0 = some 1 := by decide +kernel
theorem ml_340 : z_ml 340 = 5 := by decide +kernel
theorem en_340 : ∀ (v0 v1 v2 v3 : zV), z_ent 340 [v0, v1, v2, v3] = [some v0, some v1, some v2, some v3, none] := fun v0 v1 v2 v3 => by unfold z_ent; rw [ml_340]; rfl
theorem i341_0 : zi 341 0 1 2 9 0 := by decide +kernel
theorem i341_1 : zi 341 1 2 0 0 0 := by decide +kernel
theorem i341_2 : zi 341 2 3 2 0 0 := by decide +kernel
theorem i341_3 : zi 341 3 4 1 1 0 := by decide +kernel
theorem i341_4 : zi 341 4 5 1 2 0 := by decide +kernel
theorem i341_5 : zi 341 5 6 1 3 0 := by decide +kernel
theorem i341_6 : zi 341 6 7 1 4 0 := by decide +kernel
theorem i341_7 : zi 341 7 8 1 5 0 := by decide +kernel
theorem i341_8 : zi 341 8 9 1 6 0 := by decide +kernel
theorem i341_9 : zi 341 9 10 1 7 0 := by decide +kernel
theorem i341_10 : zi 341 10 11 1 8 0 := by decide +kernel
theorem i341_11 : zi 341 11 12 32 152 11 := by decide +kernel
theorem na_152 : z_na 152 = 8 := by decide +kernel
theorem i341_12 : zi 341 12 13 30 0 0 := by decide +kernel
theorem i341_13 : zi 341 13 14 31 0 0 := by decide +kernel
theorem i341_14 : zi 341 14 15 17 18 0 := by decide +kernel
theorem i341_18 : zi 341 18 19 0 0 0 := by decide +kernel
theorem i341_19 : zi 341 19 20 25 0 0 := by decide +kernel
theorem hd_341_1 : z_hd (z_th 341) 1 = some 1 := by decide +kernel
theorem ml_341 : z_ml 341 = 11 := by decide +kernel
theorem en_341 : ∀ (v0 v1 v2 v3 v4 v5 v6 v7 v8 v9 : zV), z_ent 341 [v0, v1, v2, v3, v4, v5, v6, v7, v8, v9] = [some v0, some v1, some v2, some v3, some v4, some v5, some v6, some v7, some v8, some v9, none] := fun v0 v1 v2 v3 v4 v5 v6 v7 v8 v9 => by unfold z_ent; rw [ml_341]; rfl
theorem i342_0 : zi 342 0 1 2 3 0 := by decide +kernel
theorem i342_1 : zi 342 1 2 0 0 0 := by decide +kernel
theorem i342_2 : zi 342 2 3 2 0 0 := by decide +kernel
theorem i342_3 : zi 342 3 4 1 1 0 := by decide +kernel
theorem i342_4 : zi 342 4 5 1 2 0 := by decide +kernel
theorem i342_5 : zi 342 5 6 32 153 11 := by decide +kernel
theorem na_153 : z_na 153 = 2 := by decide +kernel
theorem i342_6 : zi 342 6 7 30 0 0 := by decide +kernel
theorem i342_7 : zi 342 7 8 31 0 0 := by decide +kernel
theorem i342_8 : zi 342 8 9 17 15 0 := by decide +kernel
theorem i342_15 : zi 342 15 16 0 0 0 := by decide +kernel
theorem i342_16 : zi 342 16 17 25 0 0 := by decide +kernel
theorem hd_342_1 : z_hd (z_th 342) 1 = some 2 := by decide +kernel
theorem hd_342_0 : z_hd (z_th 342) 0 = some 1 := by decide +kernel
theorem ml_342 : z_ml 342 = 5 := by decide +kernel
theorem en_342 : ∀ (v0 v1 v2 v3 : zV), z_ent 342 [v0, v1, v2, v3] = [some v0, some v1, some v2, some v3, none] := fun v0 v1 v2 v3 => by unfold z_ent; rw [ml_342]; rfl
theorem i343_0 : zi 343 0 1 2 2 0 := by decide +kernel
theorem i343_1 : zi 343 1 2 0 0 0 := by decide +kernel
theorem i343_2 : zi 343 2 3 2 0 0 := by decide +kernel
theorem i343_3 : zi 343 3 4 1 1 0 := by decide +kernel
theorem i343_4 : zi 343 4 5 32 154 11 := by decide +kernel
theorem na_154 : z_na 154 = 1 := by decide +kernel
theorem i343_5 : zi 343 5 6 30 0 0 := by decide +kernel
theorem i343_6 : zi 343 6 7 31 0 0 := by decide +kernel
theorem i343_7 : zi 343 7 8 17 11 0 := by decide +kernel
theorem i343_11 : zi 343 11 12 0 0 0 := by decide +kernel
theorem i343_12 : zi 343 12 13 25 0 0 := by decide +kernel
theorem hd_343_0 : z_hd (z_th 343) 0 = some 1 := by decide +kernel
theorem ml_343 : z_ml 343 = 4 := by decide +kernel
theorem en_343 : ∀ (v0 v1 v2 : zV), z_ent 343 [v0, v1, v2] = [some v0, some v1, some v2, none] := fun v0 v1 v2 => by unfold z_ent; rw [ml_343]; rfl
theorem i344_0 : zi 344 0 1 2 2 0 := by decide +kernel
theorem i344_1 : zi 344 1 2 0 0 0 := by decide +kernel
theorem i344_2 : zi 344 2 3 2 0 0 := by decide +kernel
theorem i344_3 : zi 344 3 4 1 1 0 := by decide +kernel
theorem i344_4 : zi 344 4 5 32 155 11 := by decide +kernel
theorem na_155 : z_na 155 = 1 := by decide +kernel
theorem i344_5 : zi 344 5 6 30 0 0 := by decide +kernel
theorem i344_6 : zi 344 6 7 31 0 0 := by decide +kernel
theorem i344_7 : zi 344 7 8 17 11 0 := by decide +kernel
theorem i344_11 : zi 344 11 12 0 0 0 := by decide +kernel
theorem i344_12 : zi 344 12 13 25 0 0 := by decide +kernel
theorem hd_344_0 : z_hd (z_th 344) 0 = some 1 := by decide +kernel
theorem ml_344 : z_ml 344 = 4 := by decide +kernel
theorem en_344 : ∀ (v0 v1 v2 : zV), z_ent 344 [v0, v1, v2] = [some v0, some v1, some v2, none] := fun v0 v1 v2 => by unfold z_ent; rw [ml_344]; rfl
theorem i345_0 : zi 345 0 1 2 2 0 := by decide +kernel
theorem i345_1 : zi 345 1 2 0 0 0 := by decide +kernel
theorem i345_2 : zi 345 2 3 2 0 0 := by decide +kernel
theorem i345_3 : zi 345 3 4 1 1 0 := by decide +kernel
theorem i345_4 : zi 345 4 5 32 156 11 := by decide +kernel
theorem na_156 : z_na 156 = 1 := by decide +kernel
theorem i345_5 : zi 345 5 6 18 8 0 := by decide +kernel
theorem i345_6 : zi 345 6 7 39 0 1 := by decide +kernel
theorem i345_7 : zi 345 7 8 17 9 0 := by decide +kernel
theorem i345_8 : zi 345 8 9 39 0 0 := by decide +kernel
theorem i345_9 : zi 345 9 10 31 0 0 := by decide +kernel
theorem i345_10 : zi 345 10 11 17 14 0 := by decide +kernel
theorem i345_14 : zi 345 14 15 0 0 0 := by decide +kernel
theorem i345_15 : zi 345 15 16 25 0 0 := by decide +kernel
theorem hd_345_0 : z_hd (z_th 345) 0 = some 1 := by decide +kernel
theorem ml_345 : z_ml 345 = 4 := by decide +kernel
theorem en_345 : ∀ (v0 v1 v2 : zV), z_ent 345 [v0, v1, v2] = [some v0, some v1, some v2, none] := fun v0 v1 v2 => by unfold z_ent; rw [ml_345]; rfl
theorem i346_0 : zi 346 0 1 2 3 0 := by decide +kernel
theorem i346_1 : zi 346 1 2 0 0 0 := by decide +kernel
theorem i346_2 : zi 346 2 3 2 0 0 := by decide +kernel
theorem i346_3 : zi 346 3 4 1 1 0 := by decide +kernel
theorem i346_4 : zi 346 4 5 1 2 0 := by decide +kernel
theorem i346_5 : zi 346 5 6 32 157 11 := by decide +kernel
theorem na_157 : z_na 157 = 2 := by decide +kernel
theorem i346_6 : zi 346 6 7 30 0 0 := by decide +kernel
theorem i346_7 : zi 346 7 8 31 0 0 := by decide +kernel
theorem i346_8 : zi 346 8 9 17 15 0 := by decide +kernel
theorem i346_15 : zi 346 15 16 0 0 0 := by decide +kernel
theorem i346_16 : zi 346 16 17 25 0 0 := by decide +kernel
theorem hd_346_1 : z_hd (z_th 346) 1 = some 2 := by decide +kernel
theorem hd_346_0 : z_hd (z_th 346) 0 = some 1 := by decide +kernel
theorem ml_346 : z_ml 346 = 5 := by decide +kernel
theorem en_346 : ∀ (v0 v1 v2 v3 : zV), z_ent 346 [v0, v1, v2, v3] = [some v0, some v1, some v2, some v3, none] := fun v0 v1 v2 v3 => by unfold z_ent; rw [ml_346]; rfl
theorem i347_0 : zi 347 0 1 2 5 0 := by decide +kernel
theorem i347_1 : zi 347 1 2 0 0 0 := by decide +kernel
theorem i347_2 : zi 347 2 3 2 0 0 := by decide +kernel
theorem i347_3 : zi 347 3 4 1 1 0 := by decide +kernel
theorem i347_4 : zi 347 4 5 1 2 0 := by decide +kernel
theorem i347_5 : zi 347 5 6 1 3 0 := by decide +kernel
theorem i347_6 : zi 347 6 7 1 4 0 := by decide +kernel
theorem i347_7 : zi 347 7 8 32 158 11 := by decide +kernel
theorem na_158 : z_na 158 = 4 := by decide +kernel
theorem i347_8 : zi 347 8 9 30 0 0 := by decide +kernel
theorem i347_9 : zi 347 9 10 31 0 0 := by decide +kernel
theorem i347_10 : zi 347 10 11 17 14 0 := by decide +kernel
theorem i347_14 : zi 347 14 15 0 0 0 := by decide +kernel
theorem i347_15 : zi 347 15 16 25 0 0 := by decide +kernel
theorem hd_347_1 : z_hd (z_th 347) 1 = some 1 := by decide +kernel
theorem ml_347 : z_ml 347 = 7 := by decide +kernel
theorem en_347 : ∀ (v0 v1 v2 v3 v4 v5 : zV), z_ent 347 [v0, v1, v2, v3, v4, v5] = [some v0, some v1, some v2, some v3, some v4, some v5, none] := fun v0 v1 v2 v3 v4 v5 => by unfold z_ent; rw [ml_347]; rfl
theorem i348_0 : zi 348 0 1 2 6 0 := by decide +kernel
theorem i348_1 : zi 348 1 2 0 0 0 := by decide +kernel
theorem i348_2 : zi 348 2 3 2 0 0 := by decide +kernel
theorem i348_3 : zi 348 3 4 1 1 0 := by decide +kernel
theorem i348_4 : zi 348 4 5 1 2 0 := by decide +kernel
theorem i348_5 : zi 348 5 6 1 3 0 := by decide +kernel
theorem i348_6 : zi 348 6 7 1 4 0 := by decide +kernel
theorem i348_7 : zi 348 7 8 1 5 0 := by decide +kernel
theorem i348_8 : zi 348 8 9 32 159 11 := by decide +kernel
theorem na_159 : z_na 159 = 5 := by decide +kernel
theorem i348_9 : zi 348 9 10 30 0 0 := by decide +kernel
theorem i348_10 : zi 348 10 11 31 0 0 := by decide +kernel
theorem i348_11 : zi 348 11 12 17 15 0 := by decide +kernel
theorem i348_15 : zi 348 15 16 0 0 0 := by decide +kernel
theorem i348_16 : zi 348 16 17 25 0 0 := by decide +kernel
theorem hd_348_1 : z_hd (z_th 348) 1 = some 1 := by decide +kernel
theorem ml_348 : z_ml 348 = 8 := by decide +kernel
theorem en_348 : ∀ (v0 v1 v2 v3 v4 v5 v6 : zV), z_ent 348 [v0, v1, v2, v3, v4, v5, v6] = [some v0, some v1, some v2, some v3, some v4, some v5, some v6, none] := fun v0 v1 v2 v3 v4 v5 v6 => by unfold z_ent; rw [ml_348]; rfl
theorem i349_0 : zi 349 0 1 2 6 0 := by decide +kernel
theorem i349_1 : zi 349 1 2 0 0 0 := by decide +kernel
theorem i349_2 : zi 349 2 3 2 0 0 := by decide +kernel
theorem i349_3 : zi 349 3 4 1 1 0 := by decide +kernel
theorem i349_4 : zi 349 4 5 1 2 0 := by decide +kernel
theorem i349_5 : zi 349 5 6 1 3 0 := by decide +kernel
theorem i349_6 : zi 349 6 7 1 4 0 := by decide +kernel
theorem i349_7 : zi 349 7 8 1 5 0 := by decide +kernel
theorem i349_8 : zi 349 8 9 32 160 11 := by decide +kernel
theorem na_160 : z_na 160 = 5 := by decide +kernel
theorem i349_9 : zi 349 9 10 30 0 0 := by decide +kernel
theorem i349_10 : zi 349 10 11 31 0 0 := by decide +kernel
theorem i349_11 : zi 349 11 12 17 15 0 := by decide +kernel
theorem i349_15 : zi 349 15 16 0 0 0 := by decide +kernel
theorem i349_16 : zi 349 16 17 25 0 0 := by decide +kernel
theorem hd_349_1 : z_hd (z_th 349) 1 = some 1 := by decide +kernel
theorem ml_349 : z_ml 349 = 8 := by decide +kernel
theorem en_349 : ∀ (v0 v1 v2 v3 v4 v5 v6 : zV), z_ent 349 [v0, v1, v2, v3, v4, v5, v6] = [some v0, some v1, some v2, some v3, some v4, some v5, some v6, none] := fun v0 v1 v2 v3 v4 v5 v6 => by unfold z_ent; rw [ml_349]; rfl
theorem i350_0 : zi 350 0 1 2 3 0 := by decide +kernel
theorem i350_1 : zi 350 1 2 0 0 0 := by decide +kernel
theorem i350_2 : zi 350 2 3 2 0 0 := by decide +kernel
theorem i350_3 : zi 350 3 4 1 1 0 := by decide +kernel
theorem i350_4 : zi 350 4 5 1 2 0 := by decide +kernel
theorem i350_5 : zi 350 5 6 32 161 11 := by decide +kernel
theorem na_161 : z_na 161 = 2 := by decide +kernel
theorem i350_6 : zi 350 6 7 30 0 0 := by decide +kernel
theorem i350_7 : zi 350 7 8 31 0 0 := by decide +kernel
theorem i350_8 : zi 350 8 9 17 12 0 := by decide +kernel
theorem i350_12 : zi 350 12 13 0 0 0 := by decide +kernel
theorem i350_13 : zi 350 13 14 25 0 0 := by decide +kernel
theorem hd_350_1 : z_hd (z_th 350) 1 = some 1 := by decide +kernel
theorem ml_350 : z_ml 350 = 5 := by decide +kernel
theorem en_350 : ∀ (v0 v1 v2 v3 : zV), z_ent 350 [v0, v1, v2, v3] = [some v0, some v1, some v2, some v3, none] := fun v0 v1 v2 v3 => by unfold z_ent; rw [ml_350]; rfl
theorem i351_0 : zi 351 0 1 2 3 0 := by decide +kernel
theorem i351_1 : zi 351 1 2 0 0 0 := by decide +kernel
theorem i351_2 : zi 351 2 3 2 0 0 := by decide +kernel
theorem i351_3 : zi 351 3 4 1 1 0 := by decide +kernel
theorem i351_4 : zi 351 4 5 1 2 0 := by decide +kernel
theorem i351_5 : zi 351 5 6 32 162 11 := by decide +kernel
theorem na_162 : z_na 162 = 2 := by decide +kernel
theorem i351_6 : zi 351 6 7 30 0 0 := by decide +kernel
theorem i351_7 : zi 351 7 8 31 0 0 := by decide +kernel
theorem i351_8 : zi 351 8 9 17 15 0 := by decide +kernel
theorem i351_15 : zi 351 15 16 0 0 0 := by decide +kernel
theorem i351_16 : zi 351 16 17 25 0 0 := by decide +kernel
theorem hd_351_1 : z_hd (z_th 351) 1 = some 2 := by decide +kernel
theorem hd_351_0 : z_hd (z_th 351) 0 = some 1 := by decide +kernel
theorem ml_351 : z_ml 351 = 5 := by decide +kernel
theorem en_351 : ∀ (v0 v1 v2 v3 : zV), z_ent 351 [v0, v1, v2, v3] = [some v0, some v1, some v2, some v3, none] := fun v0 v1 v2 v3 => by unfold z_ent; rw [ml_351]; rfl
theorem i352_0 : zi 352 0 1 2 6 0 := by decide +kernel
theorem i352_1 : zi 352 1 2 0 0 0 := by decide +kernel
theorem i352_2 : zi 352 2 3 2 0 0 := by decide +kernel
theorem i352_3 : zi 352 3 4 1 1 0 := by decide +kernel
theorem i352_4 : zi 352 4 5 1 2 0 := by decide +kernel
theorem i352_5 : zi 352 5 6 1 3 0 := by decide +kernel
theorem i352_6 : zi 352 6 7 1 4 0 := by decide +kernel
theorem i352_7 : zi 352 7 8 1 5 0 := by decide +kernel
theorem i352_8 : zi 352 8 9 32 163 11 := by decide +kernel
theorem na_163 : z_na 163 = 5 := by decide +kernel
theorem i352_9 : zi 352 9 10 30 0 0 := by decide +kernel
theorem i352_10 : zi 352 10 11 31 0 0 := by decide +kernel
theorem i352_11 : zi 352 11 12 17 15 0 := by decide +kernel
theorem i352_15 : zi 352 15 16 0 0 0 := by decide +kernel
theorem i352_16 : zi 352 16 17 25 0 0 := by decide +kernel
theorem hd_352_1 : z_hd (z_th 352) 1 = some 1 := by decide +kernel
theorem ml_352 : z_ml 352 = 8 := by decide +kernel
theorem en_352 : ∀ (v0 v1 v2 v3 v4 v5 v6 : zV), z_ent 352 [v0, v1, v2, v3, v4, v5, v6] = [some v0, some v1, some v2, some v3, some v4, some v5, some v6, none] := fun v0 v1 v2 v3 v4 v5 v6 => by unfold z_ent; rw [ml_352]; rfl
theorem i353_0 : zi 353 0 1 2 3 0 := by decide +kernel
theorem i353_1 : zi 353 1 2 0 0 0 := by decide +kernel
theorem i353_2 : zi 353 2 3 2 0 0 := by decide +kernel
theorem i353_3 : zi 353 3 4 1 1 0 := by decide +kernel
theorem i353_4 : zi 353 4 5 1 2 0 := by decide +kernel
theorem i353_5 : zi 353 5 6 32 164 11 := by decide +kernel
theorem na_164 : z_na 164 = 2 := by decide +kernel
theorem i353_6 : zi 353 6 7 30 0 0 := by decide +kernel
theorem i353_7 : zi 353 7 8 31 0 0 := by decide +kernel
theorem i353_8 : zi 353 8 9 17 15 0 := by decide +kernel
theorem i353_15 : zi 353 15 16 0 0 0 := by decide +kernel
theorem i353_16 : zi 353 16 17 25 0 0 := by decide +kernel
theorem hd_353_1 : z_hd (z_th 353) 1 = some 2 := by decide +kernel
theorem hd_353_0 : z_hd (z_th 353) 0 = some 1 := by decide +kernel
theorem ml_353 : z_ml 353 = 5 := by decide +kernel
theorem en_353 : ∀ (v0 v1 v2 v3 : zV), z_ent 353 [v0, v1, v2, v3] = [some v0, some v1, some v2, some v3, none] := fun v0 v1 v2 v3 => by unfold z_ent; rw [ml_353]; rfl
theorem i354_0 : zi 354 0 1 2 3 0 := by decide +kernel
theorem i354_1 : zi 354 1 2 0 0 0 := by decide +kernel
theorem i354_2 : zi 354 2 3 2 0 0 := by decide +kernel
theorem i354_3 : zi 354 3 4 1 1 0 := by decide +kernel
theorem i354_4 : zi 354 4 5 1 2 0 := by decide +kernel
theorem i354_5 : zi 354 5 6 32 165 11 := by decide +kernel
theorem na_165 : z_na 165 = 2 := by decide +kernel
theorem i354_6 : zi 354 6 7 30 0 0 := by decide +kernel
theorem i354_7 : zi 354 7 8 31 0 0 := by decide +kernel
theorem i354_8 : zi 354 8 9 17 12 0 := by decide +kernel
theorem i354_12 : zi 354 12 13 0 0 0 := by decide +kernel
theorem i354_13 : zi 354 13 14 25 0 0 := by decide +kernel
theorem hd_354_1 : z_hd (z_th 354) 1 = some 1 := by decide +kernel
theorem ml_354 : z_ml 354 = 5 := by decide +kernel
theorem en_354 : ∀ (v0 v1 v2 v3 : zV), z_ent 354 [v0, v1, v2, v3] = [some v0, some v1, some v2, some v3, none] := fun v0 v1 v2 v3 => by unfold z_ent; rw [ml_354]; rfl
theorem i355_0 : zi 355 0 1 2 2 0 := by decide +kernel
theorem i355_1 : zi 355 1 2 0 0 0 := by decide +kernel
theorem i355_2 : zi 355 2 3 2 0 0 := by decide +kernel
theorem i355_3 : zi 355 3 4 1 1 0 := by decide +kernel
theorem i355_4 : zi 355 4 5 32 166 11 := by decide +kernel
theorem na_166 : z_na 166 = 1 := by decide +kernel
theorem i355_5 : zi 355 5 6 30 0 0 := by decide +kernel
theorem i355_6 : zi 355 6 7 31 0 0 := by decide +kernel
theorem i355_7 : zi 355 7 8 17 11 0 := by decide +kernel
theorem i355_11 : zi 355 11 12 0 0 0 := by decide +kernel
theorem i355_12 : zi 355 12 13 25 0 0 := by decide +kernel
theorem hd_355_0 : z_hd (z_th 355) 0 = some 1 := by decide +kernel
theorem ml_355 : z_ml 355 = 4 := by decide +kernel
theorem en_355 : ∀ (v0 v1 v2 : zV), z_ent 355 [v0, v1, v2] = [some v0, some v1, some v2, none] := fun v0 v1 v2 => by unfold z_ent; rw [ml_355]; rfl
theorem i356_0 : zi 356 0 1 2 2 0 := by decide +kernel
theorem i356_1 : zi 356 1 2 0 0 0 := by decide +kernel
theorem i356_2 : zi 356 2 3 2 0 0 := by decide +kernel
theorem i356_3 : zi 356 3 4 1 1 0 := by decide +kernel
theorem i356_4 : zi 356 4 5 32 167 11 := by decide +kernel
theorem na_167 : z_na 167 = 1 := by decide +kernel
theorem i356_5 : zi 356 5 6 30 0 0 := by decide +kernel
theorem i356_6 : zi 356 6 7 31 0 0 := by decide +kernel
theorem i356_7 : zi 356 7 8 17 11 0 := by decide +kernel
theorem i356_11 : zi 356 11 12 0 0 0 := by decide +kernel
theorem i356_12 : zi 356 12 13 25 0 0 := by decide +kernel
theorem hd_356_0 : z_hd (z_th 356) 0 = some 1 := by decide +kernel
theorem ml_356 : z_ml 356 = 4 := by decide +kernel
theorem en_356 : ∀ (v0 v1 v2 : zV), z_ent 356 [v0, v1, v2] = [some v0, some v1, some v2, none] := fun v0 v1 v2 => by unfold z_ent; rw [ml_356]; rfl
theorem i357_0 : zi 357 0 1 2 2 0 := by decide +kernel
theorem i357_1 : zi 357 1 2 0 0 0 := by decide +kernel
theorem i357_2 : zi 357 2 3 2 0 0 := by decide +kernel
theorem i357_3 : zi 357 3 4 1 1 0 := by decide +kernel
theorem i357_4 : zi 357 4 5 32 168 11 := by decide +kernel
theorem na_168 : z_na 168 = 1 := by decide +kernel
theorem i357_5 : zi 357 5 6 30 0 0 := by decide +kernel
theorem i357_6 : zi 357 6 7 31 0 0 := by decide +kernel
theorem i357_7 : zi 357 7 8 17 11 0 := by decide +kernel
theorem i357_11 : zi 357 11 12 0 0 0 := by decide +kernel
theorem i357_12 : zi 357 12 13 25 0 0 := by decide +kernel
theorem hd_357_0 : z_hd (z_th 357) 0 = some 1 := by decide +kernel
theorem ml_357 : z_ml 357 = 4 := by decide +kernel
theorem en_357 : ∀ (v0 v1 v2 : zV), z_ent 357 [v0, v1, v2] = [some v0, some v1, some v2, none] := fun v0 v1 v2 => by unfold z_ent; rw [ml_357]; rfl
theorem i358_0 : zi 358 0 1 2 2 0 := by decide +kernel
theorem i358_1 : zi 358 1 2 0 0 0 := by decide +kernel
theorem i358_2 : zi 358 2 3 2 0 0 := by decide +kernel
theorem i358_3 : zi 358 3 4 1 1 0 := by decide +kernel
theorem i358_4 : zi 358 4 5 32 169 11 := by decide +kernel
theorem na_169 : z_na 169 = 1 := by decide +kernel
theorem i358_5 : zi 358 5 6 30 0 0 := by decide +kernel
theorem i358_6 : zi 358 6 7 31 0 0 := by decide +kernel
theorem i358_7 : zi 358 7 8 17 11 0 := by decide +kernel
theorem i358_11 : zi 358 11 12 0 0 0 := by decide +kernel
theorem i358_12 : zi 358 12 13 25 0 0 := by decide +kernel
theorem hd_358_0 : z_hd (z_th 358) 0 = some 1 := by decide +kernel
theorem ml_358 : z_ml 358 = 4 := by decide +kernel
theorem en_358 : ∀ (v0 v1 v2 : zV), z_ent 358 [v0, v1, v2] = [some v0, some v1, some v2, none] := fun v0 v1 v2 => by unfold z_ent; rw [ml_358]; rfl
theorem i359_0 : zi 359 0 1 2 5 0 := by decide +kernel
theorem i359_1 : zi 359 1 2 0 0 0 := by decide +kernel
theorem i359_2 : zi 359 2 3 2 0 0 := by decide +kernel
theorem i359_3 : zi 359 3 4 1 1 0 := by decide +kernel
theorem i359_4 : zi 359 4 5 1 2 0 := by decide +kernel
theorem i359_5 : zi 359 5 6 1 3 0 := by decide +kernel
theorem i359_6 : zi 359 6 7 1 4 0 := by decide +kernel
theorem i359_7 : zi 359 7 8 32 170 11 := by decide +kernel
theorem na_170 : z_na 170 = 4 := by decide +kernel
theorem i359_8 : zi 359 8 9 30 0 0 := by decide +kernel
theorem i359_9 : zi 359 9 10 31 0 0 := by decide +kernel
theorem i359_10 : zi 359 10 11 17 14 0 := by decide +kernel
theorem i359_14 : zi 359 14 15 0 0 0 := by decide +kernel
theorem i359_15 : zi 359 15 16 25 0 0 := by decide +kernel
theorem hd_359_1 : z_hd (z_th 359) 1 = some 1 := by decide +kernel
theorem ml_359 : z_ml 359 = 7 := by decide +kernel
theorem en_359 : ∀ (v0 v1 v2 v3 v4 v5 : zV), z_ent 359 [v0, v1, v2, v3, v4, v5] = [some v0, some v1, some v2, some v3, some v4, some v5, none] := fun v0 v1 v2 v3 v4 v5 => by unfold z_ent; rw [ml_359]; rfl
theorem i360_0 : zi 360 0 1 2 2 0 := by decide +kernel
theorem i360_1 : zi 360 1 2 0 0 0 := by decide +kernel
theorem i360_2 : zi 360 2 3 2 0 0 := by decide +kernel
theorem i360_3 : zi 360 3 4 1 1 0 := by decide +kernel
theorem i360_4 : zi 360 4 5 32 171 11 := by decide +kernel
theorem na_171 : z_na 171 = 1 := by decide +kernel
theorem i360_5 : zi 360 5 6 30 0 0 := by decide +kernel
theorem i360_6 : zi 360 6 7 31 0 0 := by decide +kernel
theorem i360_7 : zi 360 7 8 17 11 0 := by decide +kernel
theorem i360_11 : zi 360 11 12 0 0 0 := by decide +kernel
theorem i360_12 : zi 360 12 13 25 0 0 := by decide +kernel
theorem hd_360_0 : z_hd (z_th 360) 0 = some 1 := by decide +kernel
theorem ml_360 : z_ml 360 = 4 := by decide +kernel
theorem en_360 : ∀ (v0 v1 v2 : zV), z_ent 360 [v0, v1, v2] = [some v0, some v1, some v2, none] := fun v0 v1 v2 => by unfold z_ent; rw [ml_360]; rfl
theorem i361_0 : zi 361 0 1 2 4 0 := by decide +kernel
theorem i361_1 : zi 361 1 2 0 0 0 := by decide +kernel
theorem i361_2 : zi 361 2 3 2 0 0 := by decide +kernel
theorem i361_3 : zi 361 3 4 1 1 0 := by decide +kernel
theorem i361_4 : zi 361 4 5 1 2 0 := by decide +kernel
theorem i361_5 : zi 361 5 6 1 3 0 := by decide +kernel
theorem i361_6 : zi 361 6 7 32 172 11 := by decide +kernel
theorem na_172 : z_na 172 = 3 := by decide +kernel
theorem i361_7 : zi 361 7 8 30 0 0 := by decide +kernel
theorem i361_8 : zi 361 8 9 31 0 0 := by decide +kernel
theorem i361_9 : zi 361 9 10 17 16 0 := by decide +kernel
theorem i361_16 : zi 361 16 17 0 0 0 := by decide +kernel
theorem i361_17 : zi 361 17 18 25 0 0 := by decide +kernel
theorem hd_361_1 : z_hd (z_th 361) 1 = some 2 := by decide +kernel
theorem hd_361_0 : z_hd (z_th 361) 0 = some 1 := by decide +kernel
theorem ml_361 : z_ml 361 = 6 := by decide +kernel
theorem en_361 : ∀ (v0 v1 v2 v3 v4 : zV), z_ent 361 [v0, v1, v2, v3, v4] = [some v0, some v1, some v2, some v3, some v4, none] := fun v0 v1 v2 v3 v4 => by unfold z_ent; rw [ml_361]; rfl
theorem i362_0 : zi 362 0 1 2 4 0 := by decide +kernel
theorem i362_1 : zi 362 1 2 0 0 0 := by decide +kernel
theorem i362_2 : zi 362 2 3 2 0 0 := by decide +kernel
theorem i362_3 : zi 362 3 4 1 1 0 := by decide +kernel
theorem i362_4 : zi 362 4 5 1 2 0 := by decide +kernel
theorem i362_5 : zi 362 5 6 1 3 0 := by decide +kernel
theorem i362_6 : zi 362 6 7 32 173 11 := by decide +kernel
theorem na_173 : z_na 173 = 3 := by decide +kernel
theorem i362_7 : zi 362 7 8 30 0 0 := by decide +kernel
theorem i362_8 : zi 362 8 9 31 0 0 := by decide +kernel
theorem i362_9 : zi 362 9 10 17 16 0 := by decide +kernel
theorem i362_16 : zi 362 16 17 0 0 0 := by decide +kernel
theorem i362_17 : zi 362 17 18 25 0 0 := by decide +kernel
theorem hd_362_1 : z_hd (z_th 362) 1 = some 2 := by decide +kernel
theorem hd_362_0 : z_hd (z_th 362) 0 = some 1 := by decide +kernel
theorem ml_362 : z_ml 362 = 6 := by decide +kernel
theorem en_362 : ∀ (v0 v1 v2 v3 v4 : zV), z_ent 362 [v0, v1, v2, v3, v4] = [some v0, some v1, some v2, some v3, some v4, none] := fun v0 v1 v2 v3 v4 => by unfold z_ent; rw [ml_362]; rfl
theorem i363_0 : zi 363 0 1 2 5 0 := by decide +kernel
theorem i363_1 : zi 363 1 2 0 0 0 := by decide +kernel
theorem i363_2 : zi 363 2 3 2 0 0 := by decide +kernel
theorem i363_3 : zi 363 3 4 1 1 0 := by decide +kernel
theorem i363_4 : zi 363 4 5 1 2 0 := by decide +kernel
theorem i363_5 : zi 363 5 6 1 3 0 := by decide +kernel
theorem i363_6 : zi 363 6 7 1 4 0 := by decide +kernel
theorem i363_7 : zi 363 7 8 32 175 11 := by decide +kernel
theorem na_175 : z_na 175 = 4 := by decide +kernel
theorem i363_8 : zi 363 8 9 30 0 0 := by decide +kernel
theorem i363_9 : zi 363 9 10 31 0 0 := by decide +kernel
theorem i363_10 : zi 363 10 11 17 14 0 := by decide +kernel
theorem i363_14 : zi 363 14 15 0 0 0 := by decide +kernel
theorem i363_15 : zi 363 15 16 25 0 0 := by decide +kernel
theorem hd_363_1 : z_hd (z_th 363) 1 = some 1 := by decide +kernel
theorem ml_363 : z_ml 363 = 7 := by decide +kernel
theorem en_363 : ∀ (v0 v1 v2 v3 v4 v5 : zV), z_ent 363 [v0, v1, v2, v3, v4, v5] = [some v0, some v1, some v2, some v3, some v4, some v5, none] := fun v0 v1 v2 v3 v4 v5 => by unfold z_ent; rw [ml_363]; rfl
theorem i364_0 : zi 364 0 1 2 2 0 := by decide +kernel
theorem i364_1 : zi 364 1 2 0 0 0 := by decide +kernel
theorem i364_2 : zi 364 2 3 2 0 0 := by decide +kernel
theorem i364_3 : zi 364 3 4 1 1 0 := by decide +kernel
theorem i364_4 : zi 364 4 5 32 176 11 := by decide +kernel
theorem na_176 : z_na 176 = 1 := by decide +kernel
theorem i364_5 : zi 364 5 6 18 8 0 := by decide +kernel
theorem i364_6 : zi 364 6 7 39 0 1 := by decide +kernel
theorem i364_7 : zi 364 7 8 17 9 0 := by decide +kernel
theorem i364_8 : zi 364 8 9 39 0 0 := by decide +kernel
theorem i364_9 : zi 364 9 10 31 0 0 := by decide +kernel
theorem i364_10 : zi 364 10 11 17 14 0 := by decide +kernel
theorem i364_14 : zi 364 14 15 0 0 0 := by decide +kernel
theorem i364_15 : zi 364 15 16 25 0 0 := by decide +kernel
theorem hd_364_0 : z_hd (z_th 364) 0 = some 1 := by decide +kernel
theorem ml_364 : z_ml 364 = 4 := by decide +kernel
theorem en_364 : ∀ (v0 v1 v2 : zV), z_ent 364 [v0, v1, v2] = [some v0, some v1, some v2, none] := fun v0 v1 v2 => by unfold z_ent; rw [ml_364]; rfl
theorem i365_0 : zi 365 0 1 2 2 0 := by decide +kernel
theorem i365_1 : zi 365 1 2 0 0 0 := by decide +kernel
theorem i365_2 : zi 365 2 3 2 0 0 := by decide +kernel
theorem i365_3 : zi 365 3 4 1 1 0 := by decide +kernel
theorem i365_4 : zi 365 4 5 32 178 11 := by decide +kernel
theorem na_178 : z_na 178 = 1 := by decide +kernel
theorem i365_5 : zi 365 5 6 18 8 0 := by decide +kernel
theorem i365_8 : zi 365 8 9 39 0 0 := by decide +kernel
theorem i365_6 : zi 365 6 7 39 0 1 := by decide +kernel
theorem i365_7 : zi 365 7 8 17 9 0 := by decide +kernel
theorem i365_9 : zi 365 9 10 31 0 0 := by decide +kernel
theorem i365_10 : zi 365 10 11 17 14 0 := by decide +kernel
theorem i365_14 : zi 365 14 15 0 0 0 := by decide +kernel
theorem i365_15 : zi 365 15 16 25 0 0 := by decide +kernel
theorem hd_365_0 : z_hd (z_th 365) 0 = some 1 := by decide +kernel
theorem ml_365 : z_ml 365 = 4 := by decide +kernel
theorem en_365 : ∀ (v0 v1 v2 : zV), z_ent 365 [v0, v1, v2] = [some v0, some v1, some v2, none] := fun v0 v1 v2 => by unfold z_ent; rw [ml_365]; rfl
theorem i366_0 : zi 366 0 1 2 2 0 := by decide +kernel
theorem i366_1 : zi 366 1 2 0 0 0 := by decide +kernel
theorem i366_2 : zi 366 2 3 2 0 0 := by decide +kernel
theorem i366_3 : zi 366 3 4 1 1 0 := by decide +kernel
theorem i366_4 : zi 366 4 5 32 179 11 := by decide +kernel
theorem na_179 : z_na 179 = 1 := by decide +kernel
theorem i366_5 : zi 366 5 6 30 0 0 := by decide +kernel
theorem i366_6 : zi 366 6 7 31 0 0 := by decide +kernel
theorem i366_7 : zi 366 7 8 17 11 0 := by decide +kernel
theorem i366_11 : zi 366 11 12 0 0 0 := by decide +kernel
theorem i366_12 : zi 366 12 13 25 0 0 := by decide +kernel
theorem hd_366_0 : z_hd (z_th 366) 0 = some 1 := by decide +kernel
theorem ml_366 : z_ml 366 = 4 := by decide +kernel
theorem en_366 : ∀ (v0 v1 v2 : zV), z_ent 366 [v0, v1, v2] = [some v0, some v1, some v2, none] := fun v0 v1 v2 => by unfold z_ent; rw [ml_366]; rfl
theorem i367_0 : zi 367 0 1 2 5 0 := by decide +kernel
theorem i367_1 : zi 367 1 2 0 0 0 := by decide +kernel
theorem i367_2 : zi 367 2 3 2 0 0 := by decide +kernel
theorem i367_3 : zi 367 3 4 1 1 0 := by decide +kernel
theorem i367_4 : zi 367 4 5 1 2 0 := by decide +kernel
theorem i367_5 : zi 367 5 6 1 3 0 := by decide +kernel
theorem i367_6 : zi 367 6 7 1 4 0 := by decide +kernel
theorem i367_7 : zi 367 7 8 32 180 11 := by decide +kernel
theorem na_180 : z_na 180 = 4 := by decide +kernel
theorem i367_8 : zi 367 8 9 18 11 0 := by decide +kernel
theorem i367_11 : zi 367 11 12 39 0 0 := by decide +kernel
theorem i367_9 : zi 367 9 10 39 0 1 := by decide +kernel
theorem i367_10 : zi 367 10 11 17 12 0 := by decide +kernel
theorem i367_12 : zi 367 12 13 31 0 0 := by decide +kernel
theorem i367_13 : zi 367 13 14 17 20 0 := by decide +kernel
theorem i367_20 : zi 367 20 21 0 0 0 := by decide +kernel
theorem i367_21 : zi 367 21 22 25 0 0 := by decide +kernel
theorem hd_367_1 : z_hd (z_th 367) 1 = some 2 := by decide +kernel
theorem hd_367_0 : z_hd (z_th 367) 0 = some 1 := by decide +kernel
theorem ml_367 : z_ml 367 = 7 := by decide +kernel
theorem en_367 : ∀ (v0 v1 v2 v3 v4 v5 : zV), z_ent 367 [v0, v1, v2, v3, v4, v5] = [some v0, some v1, some v2, some v3, some v4, some v5, none] := fun v0 v1 v2 v3 v4 v5 => by unfold z_ent; rw [ml_367]; rfl
theorem i368_0 : zi 368 0 1 2 2 0 := by decide +kernel
theorem i368_1 : zi 368 1 2 0 0 0 := by decide +kernel
theorem i368_2 : zi 368 2 3 2 0 0 := by decide +kernel
theorem i368_3 : zi 368 3 4 1 1 0 := by decide +kernel
theorem i368_4 : zi 368 4 5 32 181 11 := by decide +kernel
theorem na_181 : z_na 181 = 1 := by decide +kernel
theorem i368_5 : zi 368 5 6 30 0 0 := by decide +kernel
theorem i368_6 : zi 368 6 7 31 0 0 := by decide +kernel
theorem i368_7 : zi 368 7 8 17 11 0 := by decide +kernel
theorem i368_11 : zi 368 11 12 0 0 0 := by decide +kernel
theorem i368_12 : zi 368 12 13 25 0 0 := by decide +kernel
theorem hd_368_0 : z_hd (z_th 368) 0 = some 1 := by decide +kernel
theorem ml_368 : z_ml 368 = 4 := by decide +kernel
theorem en_368 : ∀ (v0 v1 v2 : zV), z_ent 368 [v0, v1, v2] = [some v0, some v1, some v2, none] := fun v0 v1 v2 => by unfold z_ent; rw [ml_368]; rfl
theorem i369_0 : zi 369 0 1 2 2 0 := by decide +kernel
theorem i369_1 : zi 369 1 2 0 0 0 := by decide +kernel
theorem i369_2 : zi 369 2 3 2 0 0 := by decide +kernel
theorem i369_3 : zi 369 3 4 1 1 0 := by decide +kernel
theorem i369_4 : zi 369 4 5 32 182 11 := by decide +kernel
theorem na_182 : z_na 182 = 1 := by decide +kernel
theorem i369_5 : zi 369 5 6 30 0 0 := by decide +kernel
theorem i369_6 : zi 369 6 7 31 0 0 := by decide +kernel
theorem i369_7 : zi 369 7 8 17 11 0 := by decide +kernel
theorem i369_11 : zi 369 11 12 0 0 0 := by decide +kernel
theorem i369_12 : zi 369 12 13 25 0 0 := by decide +kernel
theorem hd_369_1 : z_hd (z_th 369) 1 = some 1 := by decide +kernel
theorem ml_369 : z_ml 369 = 4 := by decide +kernel
theorem en_369 : ∀ (v0 v1 v2 : zV), z_ent 369 [v0, v1, v2] = [some v0, some v1, some v2, none] := fun v0 v1 v2 => by unfold z_ent; rw [ml_369]; rfl
theorem i370_0 : zi 370 0 1 2 4 0 := by decide +kernel
theorem i370_1 : zi 370 1 2 0 0 0 := by decide +kernel
theorem i370_2 : zi 370 2 3 2 0 0 := by decide +kernel
theorem i370_3 : zi 370 3 4 1 1 0 := by decide +kernel
theorem i370_4 : zi 370 4 5 1 2 0 := by decide +kernel
theorem i370_5 : zi 370 5 6 1 3 0 := by decide +kernel
theorem i370_6 : zi 370 6 7 32 183 11 := by decide +kernel
theorem na_183 : z_na 183 = 3 := by decide +kernel
theorem i370_7 : zi 370 7 8 30 0 0 := by decide +kernel
theorem i370_8 : zi 370 8 9 31 0 0 := by decide +kernel
theorem i370_9 : zi 370 9 10 17 13 0 := by decide +kernel
theorem i370_13 : zi 370 13 14 0 0 0 := by decide +kernel
theorem i370_14 : zi 370 14 15 25 0 0 := by decide +kernel
theorem hd_370_1 : z_hd (z_th 370) 1 = some 1 := by decide +kernel
theorem ml_370 : z_ml 370 = 6 := by decide +kernel
theorem en_370 : ∀ (v0 v1 v2 v3 v4 : zV), z_ent 370 [v0, v1, v2, v3, v4] = [some v0, some v1, some v2, some v3, some v4, none] := fun v0 v1 v2 v3 v4 => by unfold z_ent; rw [ml_370]; rfl
theorem i371_0 : zi 371 0 1 2 2 0 := by decide +kernel
theorem i371_1 : zi 371 1 2 0 0 0 := by decide +kernel
theorem i371_2 : zi 371 2 3 2 0 0 := by decide +kernel
theorem i371_3 : zi 371 3 4 1 1 0 := by decide +kernel
theorem i371_4 : zi 371 4 5 32 184 11 := by decide +kernel
theorem na_184 : z_na 184 = 1 := by decide +kernel
theorem i371_5 : zi 371 5 6 30 0 0 := by decide +kernel
theorem i371_6 : zi 371 6 7 31 0 0 := by decide +kernel
theorem i371_7 : zi 371 7 8 17 11 0 := by decide +kernel
theorem i371_11 : zi 371 11 12 0 0 0 := by decide +kernel
theorem i371_12 : zi 371 12 13 25 0 0 := by decide +kernel
theorem hd_371_1 : z_hd (z_th 371) 1 = some 1 := by decide +kernel
theorem ml_371 : z_ml 371 = 4 := by decide +kernel
theorem en_371 : ∀ (v0 v1 v2 : zV), z_ent 371 [v0, v1, v2] = [some v0, some v1, some v2, none] := fun v0 v1 v2 => by unfold z_ent; rw [ml_371]; rfl
theorem i372_25 : zi 372 25 26 2 1 0 := by decide +kernel
theorem i372_26 : zi 372 26 27 2 0 0 := by decide +kernel
theorem i372_27 : zi 372 27 28 1 4 0 := by decide +kernel
theorem i372_28 : zi 372 28 29 0 0 1 := by decide +kernel
theorem i372_29 : zi 372 29 30 13 0 0 := by decide +kernel
theorem i372_30 : zi 372 30 31 8 0 0 := by decide +kernel
theorem i372_31 : zi 372 31 32 2 0 0 := by decide +kernel
theorem i372_32 : zi 372 32 33 1 4 0 := by decide +kernel
theorem i372_33 : zi 372 33 34 0 0 2 := by decide +kernel
theorem i372_34 : zi 372 34 35 13 0 0 := by decide +kernel
theorem i372_35 : zi 372 35 36 8 0 0 := by decide +kernel
theorem i372_36 : zi 372 36 37 2 0 0 := by decide +kernel
theorem i372_37 : zi 372 37 38 1 4 0 := by decide +kernel
theorem i372_38 : zi 372 38 39 0 0 3 := by decide +kernel
theorem i372_39 : zi 372 39 40 13 0 0 := by decide +kernel
theorem i372_40 : zi 372 40 41 8 0 0 := by decide +kernel
theorem i372_41 : zi 372 41 42 35 324 0 := by decide +kernel
theorem na_324 : z_na 324 = 4 := by decide +kernel
theorem i372_42 : zi 372 42 43 3 5 0 := by decide +kernel
theorem i372_43 : zi 372 43 44 2 2 0 := by decide +kernel
theorem i372_44 : zi 372 44 45 2 0 0 := by decide +kernel
theorem i372_45 : zi 372 45 46 1 4 0 := by decide +kernel
theorem i372_46 : zi 372 46 47 0 0 1 := by decide +kernel
theorem i372_47 : zi 372 47 48 13 0 0 := by decide +kernel
theorem i372_48 : zi 372 48 49 8 0 0 := by decide +kernel
theorem i372_49 : zi 372 49 50 2 0 0 := by decide +kernel
theorem i372_50 : zi 372 50 51 1 4 0 := by decide +kernel
theorem i372_51 : zi 372 51 52 0 0 2 := by decide +kernel
theorem i372_52 : zi 372 52 53 13 0 0 := by decide +kernel
theorem i372_53 : zi 372 53 54 8 0 0 := by decide +kernel
theorem i372_54 : zi 372 54 55 2 0 0 := by decide +kernel
theorem i372_55 : zi 372 55 56 1 4 0 := by decide +kernel
theorem i372_56 : zi 372 56 57 0 0 3 := by decide +kernel
theorem i372_57 : zi 372 57 58 13 0 0 := by decide +kernel
theorem i372_58 : zi 372 58 59 8 0 0 := by decide +kernel
theorem i372_59 : zi 372 59 60 21 218 12 := by decide +kernel
theorem na_218 : z_na 218 = 3 := by decide +kernel
theorem i372_60 : zi 372 60 61 2 2 0 := by decide +kernel
theorem i372_61 : zi 372 61 62 21 211 12 := by decide +kernel
theorem na_211 : z_na 211 = 0 := by decide +kernel
theorem i372_62 : zi 372 62 63 1 5 0 := by decide +kernel
theorem i372_63 : zi 372 63 64 19 66 0 := by decide +kernel
theorem i372_66 : zi 372 66 67 17 2420 0 := by decide +kernel
theorem i372_2420 : zi 372 2420 2421 5 4 9 := by decide +kernel
theorem kc_9 : Int32.ofInt 9 = 9 := by decide +kernel
theorem i372_2421 : zi 372 2421 2422 17 13 0 := by decide +kernel
theorem i372_64 : zi 372 64 65 0 0 0 := by decide +kernel
theorem i372_65 : zi 372 65 66 26 0 0 := by decide +kernel
theorem i372_67 : zi 372 67 68 2 1 0 := by decide +kernel
theorem i372_68 : zi 372 68 69 2 0 0 := by decide +kernel
theorem i372_69 : zi 372 69 70 1 4 0 := by decide +kernel
theorem i372_70 : zi 372 70 71 0 0 1 := by decide +kernel
theorem i372_71 : zi 372 71 72 13 0 0 := by decide +kernel
theorem i372_72 : zi 372 72 73 8 0 0 := by decide +kernel
theorem i372_73 : zi 372 73 74 2 3 0 := by decide +kernel
theorem i372_74 : zi 372 74 75 35 325 0 := by decide +kernel
theorem na_325 : z_na 325 = 3 := by decide +kernel
theorem i372_75 : zi 372 75 76 3 5 0 := by decide +kernel
theorem i372_76 : zi 372 76 77 2 2 0 := by decide +kernel
theorem i372_77 : zi 372 77 78 2 0 0 := by decide +kernel
theorem i372_78 : zi 372 78 79 1 4 0 := by decide +kernel
theorem i372_79 : zi 372 79 80 0 0 1 := by decide +kernel
theorem i372_80 : zi 372 80 81 13 0 0 := by decide +kernel
theorem i372_81 : zi 372 81 82 8 0 0 := by decide +kernel
theorem i372_82 : zi 372 82 83 21 219 12 := by decide +kernel
theorem na_219 : z_na 219 = 1 := by decide +kernel
theorem i372_83 : zi 372 83 84 3 6 0 := by decide +kernel
theorem i372_84 : zi 372 84 85 2 2 0 := by decide +kernel
theorem i372_85 : zi 372 85 86 21 211 12 := by decide +kernel
theorem i372_86 : zi 372 86 87 1 5 0 := by decide +kernel
theorem i372_87 : zi 372 87 88 19 90 0 := by decide +kernel
theorem i372_90 : zi 372 90 91 1 5 0 := by decide +kernel
theorem i372_91 : zi 372 91 92 18 101 1 := by decide +kernel
theorem i372_92 : zi 372 92 93 2 3 0 := by decide +kernel
theorem i372_93 : zi 372 93 94 0 0 0 := by decide +kernel
theorem i372_94 : zi 372 94 95 37 0 0 := by decide +kernel
theorem i372_95 : zi 372 95 96 1 6 0 := by decide +kernel
theorem i372_96 : zi 372 96 97 30 0 0 := by decide +kernel
theorem i372_97 : zi 372 97 98 38 0 0 := by decide +kernel
theorem i372_98 : zi 372 98 99 18 101 0 := by decide +kernel
theorem i372_101 : zi 372 101 102 17 2420 0 := by decide +kernel
theorem i372_99 : zi 372 99 100 0 0 0 := by decide +kernel
theorem i372_100 : zi 372 100 101 26 0 0 := by decide +kernel
theorem i372_88 : zi 372 88 89 0 0 0 := by decide +kernel
theorem i372_89 : zi 372 89 90 26 0 0 := by decide +kernel
theorem i372_102 : zi 372 102 103 2 1 0 := by decide +kernel
theorem i372_103 : zi 372 103 104 2 0 0 := by decide +kernel
theorem i372_104 : zi 372 104 105 1 4 0 := by decide +kernel
theorem i372_105 : zi 372 105 106 0 0 1 := by decide +kernel
theorem i372_106 : zi 372 106 107 13 0 0 := by decide +kernel
theorem i372_107 : zi 372 107 108 8 0 0 := by decide +kernel
theorem i372_108 : zi 372 108 109 2 0 0 := by decide +kernel
theorem i372_109 : zi 372 109 110 1 4 0 := by decide +kernel
theorem i372_110 : zi 372 110 111 0 0 2 := by decide +kernel
theorem i372_111 : zi 372 111 112 13 0 0 := by decide +kernel
theorem i372_112 : zi 372 112 113 8 0 0 := by decide +kernel
theorem i372_113 : zi 372 113 114 2 3 0 := by decide +kernel
theorem i372_114 : zi 372 114 115 35 326 0 := by decide +kernel
theorem na_326 : z_na 326 = 4 := by decide +kernel
theorem i372_115 : zi 372 115 116 3 5 0 := by decide +kernel
theorem i372_116 : zi 372 116 117 2 2 0 := by decide +kernel
theorem i372_117 : zi 372 117 118 2 0 0 := by decide +kernel
theorem i372_118 : zi 372 118 119 1 4 0 := by decide +kernel
theorem i372_119 : zi 372 119 120 0 0 1 := by decide +kernel
theorem i372_120 : zi 372 120 121 13 0 0 := by decide +kernel
theorem i372_121 : zi 372 121 122 8 0 0 := by decide +kernel
theorem i372_122 : zi 372 122 123 2 0 0 := by decide +kernel
theorem i372_123 : zi 372 123 124 1 4 0 := by decide +kernel
theorem i372_124 : zi 372 124 125 0 0 2 := by decide +kernel
theorem i372_125 : zi 372 125 126 13 0 0 := by decide +kernel
theorem i372_126 : zi 372 126 127 8 0 0 := by decide +kernel
theorem i372_127 : zi 372 127 128 21 223 12 := by decide +kernel
theorem na_223 : z_na 223 = 2 := by decide +kernel
theorem i372_128 : zi 372 128 129 3 6 0 := by decide +kernel
theorem i372_129 : zi 372 129 130 2 2 0 := by decide +kernel
theorem i372_130 : zi 372 130 131 21 211 12 := by decide +kernel
theorem i372_131 : zi 372 131 132 1 5 0 := by decide +kernel
theorem i372_132 : zi 372 132 133 19 135 0 := by decide +kernel
theorem i372_135 : zi 372 135 136 1 5 0 := by decide +kernel
theorem i372_136 : zi 372 136 137 18 146 1 := by decide +kernel
theorem i372_137 : zi 372 137 138 2 3 0 := by decide +kernel
theorem i372_138 : zi 372 138 139 0 0 0 := by decide +kernel
theorem i372_139 : zi 372 139 140 37 0 0 := by decide +kernel
theorem i372_140 : zi 372 140 141 1 6 0 := by decide +kernel
theorem i372_141 : zi 372 141 142 30 0 0 := by decide +kernel
theorem i372_142 : zi 372 142 143 38 0 0 := by decide +kernel
theorem i372_143 : zi 372 143 144 18 146 0 := by decide +kernel
theorem i372_146 : zi 372 146 147 17 2420 0 := by decide +kernel
theorem i372_144 : zi 372 144 145 0 0 0 := by decide +kernel
theorem i372_145 : zi 372 145 146 26 0 0 := by decide +kernel
theorem i372_133 : zi 372 133 134 0 0 0 := by decide +kernel
theorem i372_134 : zi 372 134 135 26 0 0 := by decide +kernel
theorem i372_147 : zi 372 147 148 2 1 0 := by decide +kernel
theorem i372_148 : zi 372 148 149 21 134 11 := by decide +kernel
theorem na_134 : z_na 134 = 0 := by decide +kernel
theorem i372_149 : zi 372 149 150 2 2 0 := by decide +kernel
theorem i372_150 : zi 372 150 151 21 224 12 := by decide +kernel
theorem na_224 : z_na 224 = 0 := by decide +kernel
theorem i372_151 : zi 372 151 152 19 2420 0 := by decide +kernel
theorem i372_152 : zi 372 152 153 0 0 0 := by decide +kernel
theorem i372_153 : zi 372 153 154 26 0 0 := by decide +kernel
theorem i372_154 : zi 372 154 155 2 1 0 := by decide +kernel
theorem i372_155 : zi 372 155 156 21 135 11 := by decide +kernel
theorem na_135 : z_na 135 = 0 := by decide +kernel
theorem i372_156 : zi 372 156 157 2 2 0 := by decide +kernel
theorem i372_157 : zi 372 157 158 21 225 12 := by decide +kernel
theorem na_225 : z_na 225 = 0 := by decide +kernel
theorem i372_158 : zi 372 158 159 19 2420 0 := by decide +kernel
theorem i372_159 : zi 372 159 160 0 0 0 := by decide +kernel
theorem i372_160 : zi 372 160 161 26 0 0 := by decide +kernel
theorem i372_161 : zi 372 161 162 2 1 0 := by decide +kernel
theorem i372_162 : zi 372 162 163 2 0 0 := by decide +kernel
theorem i372_163 : zi 372 163 164 1 4 0 := by decide +kernel
theorem i372_164 : zi 372 164 165 0 0 1 := by decide +kernel
theorem i372_165 : zi 372 165 166 13 0 0 := by decide +kernel
theorem i372_166 : zi 372 166 167 8 0 0 := by decide +kernel
theorem i372_167 : zi 372 167 168 2 0 0 := by decide +kernel
theorem i372_168 : zi 372 168 169 1 4 0 := by decide +kernel
theorem i372_169 : zi 372 169 170 0 0 2 := by decide +kernel
theorem i372_170 : zi 372 170 171 13 0 0 := by decide +kernel
theorem i372_171 : zi 372 171 172 8 0 0 := by decide +kernel
theorem i372_172 : zi 372 172 173 2 0 0 := by decide +kernel
theorem i372_173 : zi 372 173 174 1 4 0 := by decide +kernel
theorem i372_174 : zi 372 174 175 0 0 3 := by decide +kernel
theorem i372_175 : zi 372 175 176 13 0 0 := by decide +kernel
theorem i372_176 : zi 372 176 177 8 0 0 := by decide +kernel
theorem i372_177 : zi 372 177 178 35 327 0 := by decide +kernel
theorem na_327 : z_na 327 = 4 := by decide +kernel
theorem i372_178 : zi 372 178 179 3 5 0 := by decide +kernel
theorem i372_179 : zi 372 179 180 2 2 0 := by decide +kernel
theorem i372_180 : zi 372 180 181 2 0 0 := by decide +kernel
theorem i372_181 : zi 372 181 182 1 4 0 := by decide +kernel
theorem i372_182 : zi 372 182 183 0 0 1 := by decide +kernel
theorem i372_183 : zi 372 183 184 13 0 0 := by decide +kernel
theorem i372_184 : zi 372 184 185 8 0 0 := by decide +kernel
theorem i372_185 : zi 372 185 186 2 0 0 := by decide +kernel
theorem i372_186 : zi 372 186 187 1 4 0 := by decide +kernel
theorem i372_187 : zi 372 187 188 0 0 2 := by decide +kernel
theorem i372_188 : zi 372 188 189 13 0 0 := by decide +kernel
theorem i372_189 : zi 372 189 190 8 0 0 := by decide +kernel
theorem i372_190 : zi 372 190 191 2 0 0 := by decide +kernel
theorem i372_191 : zi 372 191 192 1 4 0 := by decide +kernel
theorem i372_192 : zi 372 192 193 0 0 3 := by decide +kernel
theorem i372_193 : zi 372 193 194 13 0 0 := by decide +kernel
theorem i372_194 : zi 372 194 195 8 0 0 := by decide +kernel
theorem i372_195 : zi 372 195 196 21 226 12 := by decide +kernel
theorem na_226 : z_na 226 = 3 := by decide +kernel
theorem i372_196 : zi 372 196 197 2 2 0 := by decide +kernel
theorem i372_197 : zi 372 197 198 21 211 12 := by decide +kernel
theorem i372_198 : zi 372 198 199 1 5 0 := by decide +kernel
theorem i372_199 : zi 372 199 200 19 202 0 := by decide +kernel
theorem i372_202 : zi 372 202 203 17 2420 0 := by decide +kernel
theorem i372_200 : zi 372 200 201 0 0 0 := by decide +kernel
theorem i372_201 : zi 372 201 202 26 0 0 := by decide +kernel
theorem i372_203 : zi 372 203 204 2 1 0 := by decide +kernel
theorem i372_204 : zi 372 204 205 2 0 0 := by decide +kernel
theorem i372_205 : zi 372 205 206 1 4 0 := by decide +kernel
theorem i372_206 : zi 372 206 207 0 0 1 := by decide +kernel
theorem i372_207 : zi 372 207 208 13 0 0 := by decide +kernel
theorem i372_208 : zi 372 208 209 8 0 0 := by decide +kernel
theorem i372_209 : zi 372 209 210 2 0 0 := by decide +kernel
theorem i372_210 : zi 372 210 211 1 4 0 := by decide +kernel
theorem i372_211 : zi 372 211 212 0 0 2 := by decide +kernel
theorem i372_212 : zi 372 212 213 13 0 0 := by decide +kernel
theorem i372_213 : zi 372 213 214 8 0 0 := by decide +kernel
theorem i372_214 : zi 372 214 215 2 3 0 := by decide +kernel
theorem i372_215 : zi 372 215 216 35 328 0 := by decide +kernel
theorem na_328 : z_na 328 = 4 := by decide +kernel
theorem i372_216 : zi 372 216 217 3 5 0 := by decide +kernel
theorem i372_217 : zi 372 217 218 2 2 0 := by decide +kernel
theorem i372_218 : zi 372 218 219 2 0 0 := by decide +kernel
theorem i372_219 : zi 372 219 220 1 4 0 := by decide +kernel
theorem i372_220 : zi 372 220 221 0 0 1 := by decide +kernel
theorem i372_221 : zi 372 221 222 13 0 0 := by decide +kernel
theorem i372_222 : zi 372 222 223 8 0 0 := by decide +kernel
theorem i372_223 : zi 372 223 224 2 0 0 := by decide +kernel
theorem i372_224 : zi 372 224 225 1 4 0 := by decide +kernel
theorem i372_225 : zi 372 225 226 0 0 2 := by decide +kernel
theorem i372_226 : zi 372 226 227 13 0 0 := by decide +kernel
theorem i372_227 : zi 372 227 228 8 0 0 := by decide +kernel
theorem i372_228 : zi 372 228 229 21 227 12 := by decide +kernel
theorem na_227 : z_na 227 = 2 := by decide +kernel
theorem i372_229 : zi 372 229 230 3 6 0 := by decide +kernel
theorem i372_230 : zi 372 230 231 2 2 0 := by decide +kernel
theorem i372_231 : zi 372 231 232 21 211 12 := by decide +kernel
theorem i372_232 : zi 372 232 233 1 5 0 := by decide +kernel
theorem i372_233 : zi 372 233 234 19 236 0 := by decide +kernel
theorem i372_236 : zi 372 236 237 1 5 0 := by decide +kernel
theorem i372_237 : zi 372 237 238 18 247 1 := by decide +kernel
theorem i372_238 : zi 372 238 239 2 3 0 := by decide +kernel
theorem i372_239 : zi 372 239 240 0 0 0 := by decide +kernel
theorem i372_240 : zi 372 240 241 37 0 0 := by decide +kernel
theorem i372_241 : zi 372 241 242 1 6 0 := by decide +kernel
theorem i372_242 : zi 372 242 243 30 0 0 := by decide +kernel
theorem i372_243 : zi 372 243 244 38 0 0 := by decide +kernel
theorem i372_244 : zi 372 244 245 18 247 0 := by decide +kernel
theorem i372_247 : zi 372 247 248 17 2420 0 := by decide +kernel
theorem i372_245 : zi 372 245 246 0 0 0 := by decide +kernel
theorem i372_246 : zi 372 246 247 26 0 0 := by decide +kernel
theorem i372_234 : zi 372 234 235 0 0 0 := by decide +kernel
theorem i372_235 : zi 372 235 236 26 0 0 := by decide +kernel
theorem i372_248 : zi 372 248 249 2 1 0 := by decide +kernel
theorem i372_249 : zi 372 249 250 2 0 0 := by decide +kernel
theorem i372_250 : zi 372 250 251 1 4 0 := by decide +kernel
theorem i372_251 : zi 372 251 252 0 0 1 := by decide +kernel
theorem i372_252 : zi 372 252 253 13 0 0 := by decide +kernel
theorem i372_253 : zi 372 253 254 8 0 0 := by decide +kernel
theorem i372_254 : zi 372 254 255 2 0 0 := by decide +kernel
theorem i372_255 : zi 372 255 256 1 4 0 := by decide +kernel
theorem i372_256 : zi 372 256 257 0 0 2 := by decide +kernel
theorem i372_257 : zi 372 257 258 13 0 0 := by decide +kernel
theorem i372_258 : zi 372 258 259 8 0 0 := by decide +kernel
theorem i372_259 : zi 372 259 260 35 329 0 := by decide +kernel
theorem na_329 : z_na 329 = 3 := by decide +kernel
theorem i372_260 : zi 372 260 261 3 5 0 := by decide +kernel
theorem i372_261 : zi 372 261 262 2 2 0 := by decide +kernel
theorem i372_262 : zi 372 262 263 2 0 0 := by decide +kernel
theorem i372_263 : zi 372 263 264 1 4 0 := by decide +kernel
theorem i372_264 : zi 372 264 265 0 0 1 := by decide +kernel
theorem i372_265 : zi 372 265 266 13 0 0 := by decide +kernel
theorem i372_266 : zi 372 266 267 8 0 0 := by decide +kernel
theorem i372_267 : zi 372 267 268 2 0 0 := by decide +kernel
theorem i372_268 : zi 372 268 269 1 4 0 := by decide +kernel
theorem i372_269 : zi 372 269 270 0 0 2 := by decide +kernel
theorem i372_270 : zi 372 270 271 13 0 0 := by decide +kernel
theorem i372_271 : zi 372 271 272 8 0 0 := by decide +kernel
theorem i372_272 : zi 372 272 273 21 230 12 := by decide +kernel
theorem na_230 : z_na 230 = 2 := by decide +kernel
theorem i372_273 : zi 372 273 274 2 2 0 := by decide +kernel
theorem i372_274 : zi 372 274 275 21 211 12 := by decide +kernel
theorem i372_275 : zi 372 275 276 1 5 0 := by decide +kernel
theorem i372_276 : zi 372 276 277 19 279 0 := by decide +kernel
theorem i372_279 : zi 372 279 280 17 2420 0 := by decide +kernel
theorem i372_277 : zi 372 277 278 0 0 0 := by decide +kernel
theorem i372_278 : zi 372 278 279 26 0 0 := by decide +kernel
theorem i372_280 : zi 372 280 281 2 1 0 := by decide +kernel
theorem i372_281 : zi 372 281 282 21 139 11 := by decide +kernel
theorem na_139 : z_na 139 = 0 := by decide +kernel
theorem i372_282 : zi 372 282 283 2 2 0 := by decide +kernel
theorem i372_283 : zi 372 283 284 21 231 12 := by decide +kernel
theorem na_231 : z_na 231 = 0 := by decide +kernel
theorem i372_284 : zi 372 284 285 19 2420 0 := by decide +kernel
theorem i372_285 : zi 372 285 286 0 0 0 := by decide +kernel
theorem i372_286 : zi 372 286 287 26 0 0 := by decide +kernel
theorem i372_287 : zi 372 287 288 2 1 0 := by decide +kernel
theorem i372_288 : zi 372 288 289 2 0 0 := by decide +kernel
theorem i372_289 : zi 372 289 290 1 4 0 := by decide +kernel
theorem i372_290 : zi 372 290 291 0 0 1 := by decide +kernel
theorem i372_291 : zi 372 291 292 13 0 0 := by decide +kernel
theorem i372_292 : zi 372 292 293 8 0 0 := by decide +kernel
theorem i372_293 : zi 372 293 294 2 3 0 := by decide +kernel
theorem i372_294 : zi 372 294 295 35 330 0 := by decide +kernel
theorem na_330 : z_na 330 = 3 := by decide +kernel
theorem i372_295 : zi 372 295 296 3 5 0 := by decide +kernel
theorem i372_296 : zi 372 296 297 2 2 0 := by decide +kernel
theorem i372_297 : zi 372 297 298 2 0 0 := by decide +kernel
theorem i372_298 : zi 372 298 299 1 4 0 := by decide +kernel
theorem i372_299 : zi 372 299 300 0 0 1 := by decide +kernel
theorem i372_300 : zi 372 300 301 13 0 0 := by decide +kernel
theorem i372_301 : zi 372 301 302 8 0 0 := by decide +kernel
theorem i372_302 : zi 372 302 303 21 232 12 := by decide +kernel
theorem na_232 : z_na 232 = 1 := by decide +kernel
theorem i372_303 : zi 372 303 304 3 6 0 := by decide +kernel
theorem i372_304 : zi 372 304 305 2 2 0 := by decide +kernel
theorem i372_305 : zi 372 305 306 21 211 12 := by decide +kernel
theorem i372_306 : zi 372 306 307 1 5 0 := by decide +kernel
theorem i372_307 : zi 372 307 308 19 310 0 := by decide +kernel
theorem i372_310 : zi 372 310 311 1 5 0 := by decide +kernel
theorem i372_311 : zi 372 311 312 18 321 1 := by decide +kernel
theorem i372_312 : zi 372 312 313 2 3 0 := by decide +kernel
theorem i372_313 : zi 372 313 314 0 0 0 := by decide +kernel
theorem i372_314 : zi 372 314 315 37 0 0 := by decide +kernel
theorem i372_315 : zi 372 315 316 1 6 0 := by decide +kernel
theorem i372_316 : zi 372 316 317 30 0 0 := by decide +kernel
theorem i372_317 : zi 372 317 318 38 0 0 := by decide +kernel
theorem i372_318 : zi 372 318 319 18 321 0 := by decide +kernel
theorem i372_321 : zi 372 321 322 17 2420 0 := by decide +kernel
theorem i372_319 : zi 372 319 320 0 0 0 := by decide +kernel
theorem i372_320 : zi 372 320 321 26 0 0 := by decide +kernel
theorem i372_308 : zi 372 308 309 0 0 0 := by decide +kernel
theorem i372_309 : zi 372 309 310 26 0 0 := by decide +kernel
theorem i372_322 : zi 372 322 323 2 1 0 := by decide +kernel
theorem i372_323 : zi 372 323 324 2 0 0 := by decide +kernel
theorem i372_324 : zi 372 324 325 1 4 0 := by decide +kernel
theorem i372_325 : zi 372 325 326 0 0 1 := by decide +kernel
theorem i372_326 : zi 372 326 327 13 0 0 := by decide +kernel
theorem i372_327 : zi 372 327 328 8 0 0 := by decide +kernel
theorem i372_328 : zi 372 328 329 2 3 0 := by decide +kernel
theorem i372_329 : zi 372 329 330 35 331 0 := by decide +kernel
theorem na_331 : z_na 331 = 3 := by decide +kernel
theorem i372_330 : zi 372 330 331 3 5 0 := by decide +kernel
theorem i372_331 : zi 372 331 332 2 2 0 := by decide +kernel
theorem i372_332 : zi 372 332 333 2 0 0 := by decide +kernel
theorem i372_333 : zi 372 333 334 1 4 0 := by decide +kernel
theorem i372_334 : zi 372 334 335 0 0 1 := by decide +kernel
theorem i372_335 : zi 372 335 336 13 0 0 := by decide +kernel
theorem i372_336 : zi 372 336 337 8 0 0 := by decide +kernel
theorem i372_337 : zi 372 337 338 21 234 12 := by decide +kernel
theorem na_234 : z_na 234 = 1 := by decide +kernel
theorem i372_338 : zi 372 338 339 3 6 0 := by decide +kernel
theorem i372_339 : zi 372 339 340 2 2 0 := by decide +kernel
theorem i372_340 : zi 372 340 341 21 211 12 := by decide +kernel
theorem i372_341 : zi 372 341 342 1 5 0 := by decide +kernel
theorem i372_342 : zi 372 342 343 19 345 0 := by decide +kernel
theorem i372_345 : zi 372 345 346 1 5 0 := by decide +kernel
theorem i372_346 : zi 372 346 347 18 356 1 := by decide +kernel
theorem i372_347 : zi 372 347 348 2 3 0 := by decide +kernel
theorem i372_348 : zi 372 348 349 0 0 0 := by decide +kernel
theorem i372_349 : zi 372 349 350 37 0 0 := by decide +kernel
theorem i372_350 : zi 372 350 351 1 6 0 := by decide +kernel
theorem i372_351 : zi 372 351 352 30 0 0 := by decide +kernel
theorem i372_352 : zi 372 352 353 38 0 0 := by decide +kernel
theorem i372_353 : zi 372 353 354 18 356 0 := by decide +kernel
theorem i372_356 : zi 372 356 357 17 2420 0 := by decide +kernel
theorem i372_354 : zi 372 354 355 0 0 0 := by decide +kernel
theorem i372_355 : zi 372 355 356 26 0 0 := by decide +kernel
theorem i372_343 : zi 372 343 344 0 0 0 := by decide +kernel
theorem i372_344 : zi 372 344 345 26 0 0 := by decide +kernel
theorem i372_357 : zi 372 357 358 2 1 0 := by decide +kernel
theorem i372_358 : zi 372 358 359 21 142 11 := by decide +kernel
theorem na_142 : z_na 142 = 0 := by decide +kernel
theorem i372_359 : zi 372 359 360 2 2 0 := by decide +kernel
theorem i372_360 : zi 372 360 361 21 235 12 := by decide +kernel
theorem na_235 : z_na 235 = 0 := by decide +kernel
theorem i372_361 : zi 372 361 362 19 2420 0 := by decide +kernel
theorem i372_362 : zi 372 362 363 0 0 0 := by decide +kernel
theorem i372_363 : zi 372 363 364 26 0 0 := by decide +kernel
theorem i372_364 : zi 372 364 365 2 1 0 := by decide +kernel
theorem i372_365 : zi 372 365 366 2 0 0 := by decide +kernel
theorem i372_366 : zi 372 366 367 1 4 0 := by decide +kernel
theorem i372_367 : zi 372 367 368 0 0 1 := by decide +kernel
theorem i372_368 : zi 372 368 369 13 0 0 := by decide +kernel
theorem i372_369 : zi 372 369 370 8 0 0 := by decide +kernel
theorem i372_370 : zi 372 370 371 2 0 0 := by decide +kernel
theorem i372_371 : zi 372 371 372 1 4 0 := by decide +kernel
theorem i372_372 : zi 372 372 373 0 0 2 := by decide +kernel
theorem i372_373 : zi 372 373 374 13 0 0 := by decide +kernel
theorem i372_374 : zi 372 374 375 8 0 0 := by decide +kernel
theorem i372_375 : zi 372 375 376 2 0 0 := by decide +kernel
theorem i372_376 : zi 372 376 377 1 4 0 := by decide +kernel
theorem i372_377 : zi 372 377 378 0 0 3 := by decide +kernel
theorem i372_378 : zi 372 378 379 13 0 0 := by decide +kernel
theorem i372_379 : zi 372 379 380 8 0 0 := by decide +kernel
theorem i372_380 : zi 372 380 381 35 332 0 := by decide +kernel
theorem na_332 : z_na 332 = 4 := by decide +kernel
theorem i372_381 : zi 372 381 382 3 5 0 := by decide +kernel
theorem i372_382 : zi 372 382 383 2 2 0 := by decide +kernel
theorem i372_383 : zi 372 383 384 2 0 0 := by decide +kernel
theorem i372_384 : zi 372 384 385 1 4 0 := by decide +kernel
theorem i372_385 : zi 372 385 386 0 0 1 := by decide +kernel
theorem i372_386 : zi 372 386 387 13 0 0 := by decide +kernel
theorem i372_387 : zi 372 387 388 8 0 0 := by decide +kernel
theorem i372_388 : zi 372 388 389 2 0 0 := by decide +kernel
theorem i372_389 : zi 372 389 390 1 4 0 := by decide +kernel
theorem i372_390 : zi 372 390 391 0 0 2 := by decide +kernel
theorem i372_391 : zi 372 391 392 13 0 0 := by decide +kernel
theorem i372_392 : zi 372 392 393 8 0 0 := by decide +kernel
theorem i372_393 : zi 372 393 394 2 0 0 := by decide +kernel
theorem i372_394 : zi 372 394 395 1 4 0 := by decide +kernel
theorem i372_395 : zi 372 395 396 0 0 3 := by decide +kernel
theorem i372_396 : zi 372 396 397 13 0 0 := by decide +kernel
theorem i372_397 : zi 372 397 398 8 0 0 := by decide +kernel
theorem i372_398 : zi 372 398 399 21 236 12 := by decide +kernel
theorem na_236 : z_na 236 = 3 := by decide +kernel
theorem i372_399 : zi 372 399 400 2 2 0 := by decide +kernel
theorem i372_400 : zi 372 400 401 21 211 12 := by decide +kernel
theorem i372_401 : zi 372 401 402 1 5 0 := by decide +kernel
theorem i372_402 : zi 372 402 403 19 405 0 := by decide +kernel
theorem i372_405 : zi 372 405 406 17 2420 0 := by decide +kernel
theorem i372_403 : zi 372 403 404 0 0 0 := by decide +kernel
theorem i372_404 : zi 372 404 405 26 0 0 := by decide +kernel
theorem i372_406 : zi 372 406 407 2 1 0 := by decide +kernel
theorem i372_407 : zi 372 407 408 2 0 0 := by decide +kernel
theorem i372_408 : zi 372 408 409 1 4 0 := by decide +kernel
theorem i372_409 : zi 372 409 410 0 0 1 := by decide +kernel
theorem i372_410 : zi 372 410 411 13 0 0 := by decide +kernel
theorem i372_411 : zi 372 411 412 8 0 0 := by decide +kernel
theorem i372_412 : zi 372 412 413 2 0 0 := by decide +kernel
theorem i372_413 : zi 372 413 414 1 4 0 := by decide +kernel
theorem i372_414 : zi 372 414 415 0 0 2 := by decide +kernel
theorem i372_415 : zi 372 415 416 13 0 0 := by decide +kernel
theorem i372_416 : zi 372 416 417 8 0 0 := by decide +kernel
theorem i372_417 : zi 372 417 418 2 3 0 := by decide +kernel
theorem i372_418 : zi 372 418 419 35 333 0 := by decide +kernel
theorem na_333 : z_na 333 = 4 := by decide +kernel
theorem i372_419 : zi 372 419 420 3 5 0 := by decide +kernel
theorem i372_420 : zi 372 420 421 2 2 0 := by decide +kernel
theorem i372_421 : zi 372 421 422 2 0 0 := by decide +kernel
theorem i372_422 : zi 372 422 423 1 4 0 := by decide +kernel
theorem i372_423 : zi 372 423 424 0 0 1 := by decide +kernel
theorem i372_424 : zi 372 424 425 13 0 0 := by decide +kernel
theorem i372_425 : zi 372 425 426 8 0 0 := by decide +kernel
theorem i372_426 : zi 372 426 427 2 0 0 := by decide +kernel
theorem i372_427 : zi 372 427 428 1 4 0 := by decide +kernel
theorem i372_428 : zi 372 428 429 0 0 2 := by decide +kernel
theorem i372_429 : zi 372 429 430 13 0 0 := by decide +kernel
theorem i372_430 : zi 372 430 431 8 0 0 := by decide +kernel
theorem i372_431 : zi 372 431 432 21 240 12 := by decide +kernel
theorem na_240 : z_na 240 = 2 := by decide +kernel
theorem i372_432 : zi 372 432 433 3 6 0 := by decide +kernel
theorem i372_433 : zi 372 433 434 2 2 0 := by decide +kernel
theorem i372_434 : zi 372 434 435 21 211 12 := by decide +kernel
theorem i372_435 : zi 372 435 436 1 5 0 := by decide +kernel
theorem i372_436 : zi 372 436 437 19 439 0 := by decide +kernel
theorem i372_439 : zi 372 439 440 1 5 0 := by decide +kernel
theorem i372_440 : zi 372 440 441 18 450 1 := by decide +kernel
theorem i372_441 : zi 372 441 442 2 3 0 := by decide +kernel
theorem i372_442 : zi 372 442 443 0 0 0 := by decide +kernel
theorem i372_443 : zi 372 443 444 37 0 0 := by decide +kernel
theorem i372_444 : zi 372 444 445 1 6 0 := by decide +kernel
theorem i372_445 : zi 372 445 446 30 0 0 := by decide +kernel
theorem i372_446 : zi 372 446 447 38 0 0 := by decide +kernel
theorem i372_447 : zi 372 447 448 18 450 0 := by decide +kernel
theorem i372_450 : zi 372 450 451 17 2420 0 := by decide +kernel
theorem i372_448 : zi 372 448 449 0 0 0 := by decide +kernel
theorem i372_449 : zi 372 449 450 26 0 0 := by decide +kernel
theorem i372_437 : zi 372 437 438 0 0 0 := by decide +kernel
theorem i372_438 : zi 372 438 439 26 0 0 := by decide +kernel
theorem i372_451 : zi 372 451 452 2 1 0 := by decide +kernel
theorem i372_452 : zi 372 452 453 2 0 0 := by decide +kernel
theorem i372_453 : zi 372 453 454 1 4 0 := by decide +kernel
theorem i372_454 : zi 372 454 455 0 0 1 := by decide +kernel
theorem i372_455 : zi 372 455 456 13 0 0 := by decide +kernel
theorem i372_456 : zi 372 456 457 8 0 0 := by decide +kernel
theorem i372_457 : zi 372 457 458 2 0 0 := by decide +kernel
theorem i372_458 : zi 372 458 459 1 4 0 := by decide +kernel
theorem i372_459 : zi 372 459 460 0 0 2 := by decide +kernel
theorem i372_460 : zi 372 460 461 13 0 0 := by decide +kernel
theorem i372_461 : zi 372 461 462 8 0 0 := by decide +kernel
theorem i372_462 : zi 372 462 463 2 0 0 := by decide +kernel
theorem i372_463 : zi 372 463 464 1 4 0 := by decide +kernel
theorem i372_464 : zi 372 464 465 0 0 3 := by decide +kernel
theorem i372_465 : zi 372 465 466 13 0 0 := by decide +kernel
theorem i372_466 : zi 372 466 467 8 0 0 := by decide +kernel
theorem i372_467 : zi 372 467 468 2 0 0 := by decide +kernel
theorem i372_468 : zi 372 468 469 1 4 0 := by decide +kernel
theorem i372_469 : zi 372 469 470 0 0 4 := by decide +kernel
theorem i372_470 : zi 372 470 471 13 0 0 := by decide +kernel
theorem i372_471 : zi 372 471 472 8 0 0 := by decide +kernel
theorem i372_472 : zi 372 472 473 2 0 0 := by decide +kernel
theorem i372_473 : zi 372 473 474 1 4 0 := by decide +kernel
theorem i372_474 : zi 372 474 475 0 0 5 := by decide +kernel
theorem i372_475 : zi 372 475 476 13 0 0 := by decide +kernel
theorem i372_476 : zi 372 476 477 8 0 0 := by decide +kernel
theorem i372_477 : zi 372 477 478 2 0 0 := by decide +kernel
theorem i372_478 : zi 372 478 479 1 4 0 := by decide +kernel
theorem i372_479 : zi 372 479 480 0 0 6 := by decide +kernel
theorem i372_480 : zi 372 480 481 13 0 0 := by decide +kernel
theorem i372_481 : zi 372 481 482 8 0 0 := by decide +kernel
theorem i372_482 : zi 372 482 483 2 3 0 := by decide +kernel
theorem i372_483 : zi 372 483 484 35 334 0 := by decide +kernel
theorem na_334 : z_na 334 = 8 := by decide +kernel
theorem i372_484 : zi 372 484 485 3 5 0 := by decide +kernel
theorem i372_485 : zi 372 485 486 2 2 0 := by decide +kernel
theorem i372_486 : zi 372 486 487 2 0 0 := by decide +kernel
theorem i372_487 : zi 372 487 488 1 4 0 := by decide +kernel
theorem i372_488 : zi 372 488 489 0 0 1 := by decide +kernel
theorem i372_489 : zi 372 489 490 13 0 0 := by decide +kernel
theorem i372_490 : zi 372 490 491 8 0 0 := by decide +kernel
theorem i372_491 : zi 372 491 492 2 0 0 := by decide +kernel
theorem i372_492 : zi 372 492 493 1 4 0 := by decide +kernel
theorem i372_493 : zi 372 493 494 0 0 2 := by decide +kernel
theorem i372_494 : zi 372 494 495 13 0 0 := by decide +kernel
theorem i372_495 : zi 372 495 496 8 0 0 := by decide +kernel
theorem i372_496 : zi 372 496 497 2 0 0 := by decide +kernel
theorem i372_497 : zi 372 497 498 1 4 0 := by decide +kernel
theorem i372_498 : zi 372 498 499 0 0 3 := by decide +kernel
theorem i372_499 : zi 372 499 500 13 0 0 := by decide +kernel
theorem i372_500 : zi 372 500 501 8 0 0 := by decide +kernel
theorem i372_501 : zi 372 501 502 2 0 0 := by decide +kernel
theorem i372_502 : zi 372 502 503 1 4 0 := by decide +kernel
theorem i372_503 : zi 372 503 504 0 0 4 := by decide +kernel
theorem i372_504 : zi 372 504 505 13 0 0 := by decide +kernel
theorem i372_505 : zi 372 505 506 8 0 0 := by decide +kernel
theorem i372_506 : zi 372 506 507 2 0 0 := by decide +kernel
theorem i372_507 : zi 372 507 508 1 4 0 := by decide +kernel
theorem i372_508 : zi 372 508 509 0 0 5 := by decide +kernel
theorem i372_509 : zi 372 509 510 13 0 0 := by decide +kernel
theorem i372_510 : zi 372 510 511 8 0 0 := by decide +kernel
theorem i372_511 : zi 372 511 512 2 0 0 := by decide +kernel
theorem i372_512 : zi 372 512 513 1 4 0 := by decide +kernel
theorem i372_513 : zi 372 513 514 0 0 6 := by decide +kernel
theorem i372_514 : zi 372 514 515 13 0 0 := by decide +kernel
theorem i372_515 : zi 372 515 516 8 0 0 := by decide +kernel
theorem i372_516 : zi 372 516 517 21 242 12 := by decide +kernel
theorem na_242 : z_na 242 = 6 := by decide +kernel
theorem i372_517 : zi 372 517 518 3 6 0 := by decide +kernel
theorem i372_518 : zi 372 518 519 2 2 0 := by decide +kernel
theorem i372_519 : zi 372 519 520 21 211 12 := by decide +kernel
theorem i372_520 : zi 372 520 521 1 5 0 := by decide +kernel
theorem i372_521 : zi 372 521 522 19 524 0 := by decide +kernel
theorem i372_524 : zi 372 524 525 1 5 0 := by decide +kernel
theorem i372_525 : zi 372 525 526 18 535 1 := by decide +kernel
theorem i372_526 : zi 372 526 527 2 3 0 := by decide +kernel
theorem i372_527 : zi 372 527 528 0 0 0 := by decide +kernel
theorem i372_528 : zi 372 528 529 37 0 0 := by decide +kernel
theorem i372_529 : zi 372 529 530 1 6 0 := by decide +kernel
theorem i372_530 : zi 372 530 531 30 0 0 := by decide +kernel
theorem i372_531 : zi 372 531 532 38 0 0 := by decide +kernel
theorem i372_532 : zi 372 532 533 18 535 0 := by decide +kernel
theorem i372_535 : zi 372 535 536 17 2420 0 := by decide +kernel
theorem i372_533 : zi 372 533 534 0 0 0 := by decide +kernel
theorem i372_534 : zi 372 534 535 26 0 0 := by decide +kernel
theorem i372_522 : zi 372 522 523 0 0 0 := by decide +kernel
theorem i372_523 : zi 372 523 524 26 0 0 := by decide +kernel
theorem i372_536 : zi 372 536 537 2 1 0 := by decide +kernel
theorem i372_537 : zi 372 537 538 2 0 0 := by decide +kernel
theorem i372_538 : zi 372 538 539 1 4 0 := by decide +kernel
theorem i372_539 : zi 372 539 540 0 0 1 := by decide +kernel
theorem i372_540 : zi 372 540 541 13 0 0 := by decide +kernel
theorem i372_541 : zi 372 541 542 8 0 0 := by decide +kernel
theorem i372_542 : zi 372 542 543 2 3 0 := by decide +kernel
theorem i372_543 : zi 372 543 544 35 335 0 := by decide +kernel
theorem na_335 : z_na 335 = 3 := by decide +kernel
theorem i372_544 : zi 372 544 545 3 5 0 := by decide +kernel
theorem i372_545 : zi 372 545 546 2 2 0 := by decide +kernel
theorem i372_546 : zi 372 546 547 2 0 0 := by decide +kernel
theorem i372_547 : zi 372 547 548 1 4 0 := by decide +kernel
theorem i372_548 : zi 372 548 549 0 0 1 := by decide +kernel
theorem i372_549 : zi 372 549 550 13 0 0 := by decide +kernel
theorem i372_550 : zi 372 550 551 8 0 0 := by decide +kernel
theorem i372_551 : zi 372 551 552 21 243 12 := by decide +kernel
theorem na_243 : z_na 243 = 1 := by decide +kernel
theorem i372_552 : zi 372 552 553 3 6 0 := by decide +kernel
theorem i372_553 : zi 372 553 554 2 2 0 := by decide +kernel
theorem i372_554 : zi 372 554 555 21 211 12 := by decide +kernel
theorem i372_555 : zi 372 555 556 1 5 0 := by decide +kernel
theorem i372_556 : zi 372 556 557 19 559 0 := by decide +kernel
theorem i372_559 : zi 372 559 560 1 5 0 := by decide +kernel
theorem i372_560 : zi 372 560 561 18 570 1 := by decide +kernel
theorem i372_561 : zi 372 561 562 2 3 0 := by decide +kernel
theorem i372_562 : zi 372 562 563 0 0 0 := by decide +kernel
theorem i372_563 : zi 372 563 564 37 0 0 := by decide +kernel
theorem i372_564 : zi 372 564 565 1 6 0 := by decide +kernel
theorem i372_565 : zi 372 565 566 30 0 0 := by decide +kernel
theorem i372_566 : zi 372 566 567 38 0 0 := by decide +kernel
theorem i372_567 : zi 372 567 568 18 570 0 := by decide +kernel
theorem i372_570 : zi 372 570 571 17 2420 0 := by decide +kernel
theorem i372_568 : zi 372 568 569 0 0 0 := by decide +kernel
theorem i372_569 : zi 372 569 570 26 0 0 := by decide +kernel
theorem i372_557 : zi 372 557 558 0 0 0 := by decide +kernel
theorem i372_558 : zi 372 558 559 26 0 0 := by decide +kernel
theorem i372_571 : zi 372 571 572 2 1 0 := by decide +kernel
theorem i372_572 : zi 372 572 573 2 0 0 := by decide +kernel
theorem i372_573 : zi 372 573 574 1 4 0 := by decide +kernel
theorem i372_574 : zi 372 574 575 0 0 1 := by decide +kernel
theorem i372_575 : zi 372 575 576 13 0 0 := by decide +kernel
theorem i372_576 : zi 372 576 577 8 0 0 := by decide +kernel
theorem i372_577 : zi 372 577 578 2 0 0 := by decide +kernel
theorem i372_578 : zi 372 578 579 1 4 0 := by decide +kernel
theorem i372_579 : zi 372 579 580 0 0 2 := by decide +kernel
theorem i372_580 : zi 372 580 581 13 0 0 := by decide +kernel
theorem i372_581 : zi 372 581 582 8 0 0 := by decide +kernel
theorem i372_582 : zi 372 582 583 2 0 0 := by decide +kernel
theorem i372_583 : zi 372 583 584 1 4 0 := by decide +kernel
theorem i372_584 : zi 372 584 585 0 0 3 := by decide +kernel
theorem i372_585 : zi 372 585 586 13 0 0 := by decide +kernel
theorem i372_586 : zi 372 586 587 8 0 0 := by decide +kernel
theorem i372_587 : zi 372 587 588 2 3 0 := by decide +kernel
theorem i372_588 : zi 372 588 589 35 336 0 := by decide +kernel
theorem na_336 : z_na 336 = 5 := by decide +kernel
theorem i372_589 : zi 372 589 590 3 5 0 := by decide +kernel
theorem i372_590 : zi 372 590 591 2 2 0 := by decide +kernel
theorem i372_591 : zi 372 591 592 2 0 0 := by decide +kernel
theorem i372_592 : zi 372 592 593 1 4 0 := by decide +kernel
theorem i372_593 : zi 372 593 594 0 0 1 := by decide +kernel
theorem i372_594 : zi 372 594 595 13 0 0 := by decide +kernel
theorem i372_595 : zi 372 595 596 8 0 0 := by decide +kernel
theorem i372_596 : zi 372 596 597 2 0 0 := by decide +kernel
theorem i372_597 : zi 372 597 598 1 4 0 := by decide +kernel
theorem i372_598 : zi 372 598 599 0 0 2 := by decide +kernel
theorem i372_599 : zi 372 599 600 13 0 0 := by decide +kernel
theorem i372_600 : zi 372 600 601 8 0 0 := by decide +kernel
theorem i372_601 : zi 372 601 602 2 0 0 := by decide +kernel
theorem i372_602 : zi 372 602 603 1 4 0 := by decide +kernel
theorem i372_603 : zi 372 603 604 0 0 3 := by decide +kernel
theorem i372_604 : zi 372 604 605 13 0 0 := by decide +kernel
theorem i372_605 : zi 372 605 606 8 0 0 := by decide +kernel
theorem i372_606 : zi 372 606 607 21 246 12 := by decide +kernel
theorem na_246 : z_na 246 = 3 := by decide +kernel
theorem i372_607 : zi 372 607 608 3 6 0 := by decide +kernel
theorem i372_608 : zi 372 608 609 2 2 0 := by decide +kernel
theorem i372_609 : zi 372 609 610 21 211 12 := by decide +kernel
theorem i372_610 : zi 372 610 611 1 5 0 := by decide +kernel
theorem i372_611 : zi 372 611 612 19 614 0 := by decide +kernel
theorem i372_614 : zi 372 614 615 1 5 0 := by decide +kernel
theorem i372_615 : zi 372 615 616 18 625 1 := by decide +kernel
theorem i372_616 : zi 372 616 617 2 3 0 := by decide +kernel
theorem i372_617 : zi 372 617 618 0 0 0 := by decide +kernel
theorem i372_618 : zi 372 618 619 37 0 0 := by decide +kernel
theorem i372_619 : zi 372 619 620 1 6 0 := by decide +kernel
theorem i372_620 : zi 372 620 621 30 0 0 := by decide +kernel
theorem i372_621 : zi 372 621 622 38 0 0 := by decide +kernel
theorem i372_622 : zi 372 622 623 18 625 0 := by decide +kernel
theorem i372_625 : zi 372 625 626 17 2420 0 := by decide +kernel
theorem i372_623 : zi 372 623 624 0 0 0 := by decide +kernel
theorem i372_624 : zi 372 624 625 26 0 0 := by decide +kernel
theorem i372_612 : zi 372 612 613 0 0 0 := by decide +kernel
theorem i372_613 : zi 372 613 614 26 0 0 := by decide +kernel
theorem i372_626 : zi 372 626 627 2 1 0 := by decide +kernel
theorem i372_627 : zi 372 627 628 2 0 0 := by decide +kernel
theorem i372_628 : zi 372 628 629 1 4 0 := by decide +kernel
theorem i372_629 : zi 372 629 630 0 0 1 := by decide +kernel
theorem i372_630 : zi 372 630 631 13 0 0 := by decide +kernel
theorem i372_631 : zi 372 631 632 8 0 0 := by decide +kernel
theorem i372_632 : zi 372 632 633 2 0 0 := by decide +kernel
theorem i372_633 : zi 372 633 634 1 4 0 := by decide +kernel
theorem i372_634 : zi 372 634 635 0 0 2 := by decide +kernel
theorem i372_635 : zi 372 635 636 13 0 0 := by decide +kernel
theorem i372_636 : zi 372 636 637 8 0 0 := by decide +kernel
theorem i372_637 : zi 372 637 638 2 0 0 := by decide +kernel
theorem i372_638 : zi 372 638 639 1 4 0 := by decide +kernel
theorem i372_639 : zi 372 639 640 0 0 3 := by decide +kernel
theorem i372_640 : zi 372 640 641 13 0 0 := by decide +kernel
theorem i372_641 : zi 372 641 642 8 0 0 := by decide +kernel
theorem i372_642 : zi 372 642 643 2 3 0 := by decide +kernel
theorem i372_643 : zi 372 643 644 35 337 0 := by decide +kernel
theorem na_337 : z_na 337 = 5 := by decide +kernel
theorem i372_644 : zi 372 644 645 3 5 0 := by decide +kernel
theorem i372_645 : zi 372 645 646 2 2 0 := by decide +kernel
theorem i372_646 : zi 372 646 647 2 0 0 := by decide +kernel
theorem i372_647 : zi 372 647 648 1 4 0 := by decide +kernel
theorem i372_648 : zi 372 648 649 0 0 1 := by decide +kernel
theorem i372_649 : zi 372 649 650 13 0 0 := by decide +kernel
theorem i372_650 : zi 372 650 651 8 0 0 := by decide +kernel
theorem i372_651 : zi 372 651 652 2 0 0 := by decide +kernel
theorem i372_652 : zi 372 652 653 1 4 0 := by decide +kernel
theorem i372_653 : zi 372 653 654 0 0 2 := by decide +kernel
theorem i372_654 : zi 372 654 655 13 0 0 := by decide +kernel
theorem i372_655 : zi 372 655 656 8 0 0 := by decide +kernel
theorem i372_656 : zi 372 656 657 2 0 0 := by decide +kernel
theorem i372_657 : zi 372 657 658 1 4 0 := by decide +kernel
theorem i372_658 : zi 372 658 659 0 0 3 := by decide +kernel
theorem i372_659 : zi 372 659 660 13 0 0 := by decide +kernel
theorem i372_660 : zi 372 660 661 8 0 0 := by decide +kernel
theorem i372_661 : zi 372 661 662 21 248 12 := by decide +kernel
theorem na_248 : z_na 248 = 3 := by decide +kernel
theorem i372_662 : zi 372 662 663 3 6 0 := by decide +kernel
theorem i372_663 : zi 372 663 664 2 2 0 := by decide +kernel
theorem i372_664 : zi 372 664 665 21 211 12 := by decide +kernel
theorem i372_665 : zi 372 665 666 1 5 0 := by decide +kernel
theorem i372_666 : zi 372 666 667 19 669 0 := by decide +kernel
theorem i372_669 : zi 372 669 670 1 5 0 := by decide +kernel
theorem i372_670 : zi 372 670 671 18 680 1 := by decide +kernel
theorem i372_671 : zi 372 671 672 2 3 0 := by decide +kernel
theorem i372_672 : zi 372 672 673 0 0 0 := by decide +kernel
theorem i372_673 : zi 372 673 674 37 0 0 := by decide +kernel
theorem i372_674 : zi 372 674 675 1 6 0 := by decide +kernel
theorem i372_675 : zi 372 675 676 30 0 0 := by decide +kernel
theorem i372_676 : zi 372 676 677 38 0 0 := by decide +kernel
theorem i372_677 : zi 372 677 678 18 680 0 := by decide +kernel
theorem i372_680 : zi 372 680 681 17 2420 0 := by decide +kernel
theorem i372_678 : zi 372 678 679 0 0 0 := by decide +kernel
theorem i372_679 : zi 372 679 680 26 0 0 := by decide +kernel
theorem i372_667 : zi 372 667 668 0 0 0 := by decide +kernel
theorem i372_668 : zi 372 668 669 26 0 0 := by decide +kernel
theorem i372_681 : zi 372 681 682 2 1 0 := by decide +kernel
theorem i372_682 : zi 372 682 683 2 0 0 := by decide +kernel
theorem i372_683 : zi 372 683 684 1 4 0 := by decide +kernel
theorem i372_684 : zi 372 684 685 0 0 1 := by decide +kernel
theorem i372_685 : zi 372 685 686 13 0 0 := by decide +kernel
theorem i372_686 : zi 372 686 687 8 0 0 := by decide +kernel
theorem i372_687 : zi 372 687 688 2 0 0 := by decide +kernel
theorem i372_688 : zi 372 688 689 1 4 0 := by decide +kernel
theorem i372_689 : zi 372 689 690 0 0 2 := by decide +kernel
theorem i372_690 : zi 372 690 691 13 0 0 := by decide +kernel
theorem i372_691 : zi 372 691 692 8 0 0 := by decide +kernel
theorem i372_692 : zi 372 692 693 2 3 0 := by decide +kernel
theorem i372_693 : zi 372 693 694 35 338 0 := by decide +kernel
theorem na_338 : z_na 338 = 4 := by decide +kernel
theorem i372_694 : zi 372 694 695 3 5 0 := by decide +kernel
theorem i372_695 : zi 372 695 696 2 2 0 := by decide +kernel
theorem i372_696 : zi 372 696 697 2 0 0 := by decide +kernel
theorem i372_697 : zi 372 697 698 1 4 0 := by decide +kernel
theorem i372_698 : zi 372 698 699 0 0 1 := by decide +kernel
theorem i372_699 : zi 372 699 700 13 0 0 := by decide +kernel
theorem i372_700 : zi 372 700 701 8 0 0 := by decide +kernel
theorem i372_701 : zi 372 701 702 2 0 0 := by decide +kernel
theorem i372_702 : zi 372 702 703 1 4 0 := by decide +kernel
theorem i372_703 : zi 372 703 704 0 0 2 := by decide +kernel
theorem i372_704 : zi 372 704 705 13 0 0 := by decide +kernel
theorem i372_705 : zi 372 705 706 8 0 0 := by decide +kernel
theorem i372_706 : zi 372 706 707 21 249 12 := by decide +kernel
theorem na_249 : z_na 249 = 2 := by decide +kernel
theorem i372_707 : zi 372 707 708 3 6 0 := by decide +kernel
theorem i372_708 : zi 372 708 709 2 2 0 := by decide +kernel
theorem i372_709 : zi 372 709 710 21 211 12 := by decide +kernel
theorem i372_710 : zi 372 710 711 1 5 0 := by decide +kernel
theorem i372_711 : zi 372 711 712 19 714 0 := by decide +kernel
theorem i372_714 : zi 372 714 715 1 5 0 := by decide +kernel
theorem i372_715 : zi 372 715 716 18 725 1 := by decide +kernel
theorem i372_716 : zi 372 716 717 2 3 0 := by decide +kernel
theorem i372_717 : zi 372 717 718 0 0 0 := by decide +kernel
theorem i372_718 : zi 372 718 719 37 0 0 := by decide +kernel
theorem i372_719 : zi 372 719 720 1 6 0 := by decide +kernel
theorem i372_720 : zi 372 720 721 30 0 0 := by decide +kernel
theorem i372_721 : zi 372 721 722 38 0 0 := by decide +kernel
theorem i372_722 : zi 372 722 723 18 725 0 := by decide +kernel
theorem i372_725 : zi 372 725 726 17 2420 0 := by decide +kernel
theorem i372_723 : zi 372 723 724 0 0 0 := by decide +kernel
theorem i372_724 : zi 372 724 725 26 0 0 := by decide +kernel
theorem i372_712 : zi 372 712 713 0 0 0 := by decide +kernel
theorem i372_713 : zi 372 713 714 26 0 0 := by decide +kernel
theorem i372_726 : zi 372 726 727 2 1 0 := by decide +kernel
theorem i372_727 : zi 372 727 728 2 0 0 := by decide +kernel
theorem i372_728 : zi 372 728 729 1 4 0 := by decide +kernel
theorem i372_729 : zi 372 729 730 0 0 1 := by decide +kernel
theorem i372_730 : zi 372 730 731 13 0 0 := by decide +kernel
theorem i372_731 : zi 372 731 732 8 0 0 := by decide +kernel
theorem i372_732 : zi 372 732 733 2 0 0 := by decide +kernel
theorem i372_733 : zi 372 733 734 1 4 0 := by decide +kernel
theorem i372_734 : zi 372 734 735 0 0 2 := by decide +kernel
theorem i372_735 : zi 372 735 736 13 0 0 := by decide +kernel
theorem i372_736 : zi 372 736 737 8 0 0 := by decide +kernel
theorem i372_737 : zi 372 737 738 18 740 0 := by decide +kernel
theorem i372_740 : zi 372 740 741 0 0 0 := by decide +kernel
theorem i372_738 : zi 372 738 739 0 0 1 := by decide +kernel
theorem i372_739 : zi 372 739 740 17 741 0 := by decide +kernel
theorem i372_741 : zi 372 741 742 2 0 0 := by decide +kernel
theorem i372_742 : zi 372 742 743 1 4 0 := by decide +kernel
theorem i372_743 : zi 372 743 744 0 0 3 := by decide +kernel
theorem i372_744 : zi 372 744 745 13 0 0 := by decide +kernel
theorem i372_745 : zi 372 745 746 8 0 0 := by decide +kernel
theorem i372_746 : zi 372 746 747 2 0 0 := by decide +kernel
theorem i372_747 : zi 372 747 748 1 4 0 := by decide +kernel
theorem i372_748 : zi 372 748 749 0 0 4 := by decide +kernel
theorem i372_749 : zi 372 749 750 13 0 0 := by decide +kernel
theorem i372_750 : zi 372 750 751 8 0 0 := by decide +kernel
theorem i372_751 : zi 372 751 752 18 754 0 := by decide +kernel
theorem i372_754 : zi 372 754 755 0 0 0 := by decide +kernel
theorem i372_752 : zi 372 752 753 0 0 1 := by decide +kernel
theorem i372_753 : zi 372 753 754 17 755 0 := by decide +kernel
theorem i372_755 : zi 372 755 756 2 3 0 := by decide +kernel
theorem i372_756 : zi 372 756 757 35 339 0 := by decide +kernel
theorem na_339 : z_na 339 = 6 := by decide +kernel
theorem i372_757 : zi 372 757 758 3 5 0 := by decide +kernel
theorem i372_758 : zi 372 758 759 2 2 0 := by decide +kernel
theorem i372_759 : zi 372 759 760 2 0 0 := by decide +kernel
theorem i372_760 : zi 372 760 761 1 4 0 := by decide +kernel
theorem i372_761 : zi 372 761 762 0 0 1 := by decide +kernel
theorem i372_762 : zi 372 762 763 13 0 0 := by decide +kernel
theorem i372_763 : zi 372 763 764 8 0 0 := by decide +kernel
theorem i372_764 : zi 372 764 765 2 0 0 := by decide +kernel
theorem i372_765 : zi 372 765 766 1 4 0 := by decide +kernel
theorem i372_766 : zi 372 766 767 0 0 2 := by decide +kernel
theorem i372_767 : zi 372 767 768 13 0 0 := by decide +kernel
theorem i372_768 : zi 372 768 769 8 0 0 := by decide +kernel
theorem i372_769 : zi 372 769 770 18 772 0 := by decide +kernel
theorem i372_772 : zi 372 772 773 0 0 0 := by decide +kernel
theorem i372_770 : zi 372 770 771 0 0 1 := by decide +kernel
theorem i372_771 : zi 372 771 772 17 773 0 := by decide +kernel
theorem i372_773 : zi 372 773 774 2 0 0 := by decide +kernel
theorem i372_774 : zi 372 774 775 1 4 0 := by decide +kernel
theorem i372_775 : zi 372 775 776 0 0 3 := by decide +kernel
theorem i372_776 : zi 372 776 777 13 0 0 := by decide +kernel
theorem i372_777 : zi 372 777 778 8 0 0 := by decide +kernel
theorem i372_778 : zi 372 778 779 2 0 0 := by decide +kernel
theorem i372_779 : zi 372 779 780 1 4 0 := by decide +kernel
theorem i372_780 : zi 372 780 781 0 0 4 := by decide +kernel
theorem i372_781 : zi 372 781 782 13 0 0 := by decide +kernel
theorem i372_782 : zi 372 782 783 8 0 0 := by decide +kernel
theorem i372_783 : zi 372 783 784 18 786 0 := by decide +kernel
theorem i372_786 : zi 372 786 787 0 0 0 := by decide +kernel
theorem i372_784 : zi 372 784 785 0 0 1 := by decide +kernel
theorem i372_785 : zi 372 785 786 17 787 0 := by decide +kernel
theorem i372_787 : zi 372 787 788 21 250 12 := by decide +kernel
theorem na_250 : z_na 250 = 4 := by decide +kernel
theorem i372_788 : zi 372 788 789 3 6 0 := by decide +kernel
theorem i372_789 : zi 372 789 790 2 2 0 := by decide +kernel
theorem i372_790 : zi 372 790 791 21 211 12 := by decide +kernel
theorem i372_791 : zi 372 791 792 1 5 0 := by decide +kernel
theorem i372_792 : zi 372 792 793 19 795 0 := by decide +kernel
theorem i372_795 : zi 372 795 796 1 5 0 := by decide +kernel
theorem i372_796 : zi 372 796 797 18 809 1 := by decide +kernel
theorem i372_797 : zi 372 797 798 2 3 0 := by decide +kernel
theorem i372_798 : zi 372 798 799 0 0 0 := by decide +kernel
theorem i372_799 : zi 372 799 800 37 0 0 := by decide +kernel
theorem i372_800 : zi 372 800 801 1 6 0 := by decide +kernel
theorem i372_801 : zi 372 801 802 18 804 0 := by decide +kernel
theorem i372_804 : zi 372 804 805 39 0 0 := by decide +kernel
theorem i372_802 : zi 372 802 803 39 0 1 := by decide +kernel
theorem i372_803 : zi 372 803 804 17 805 0 := by decide +kernel
theorem i372_805 : zi 372 805 806 38 0 0 := by decide +kernel
theorem i372_806 : zi 372 806 807 18 809 0 := by decide +kernel
theorem i372_809 : zi 372 809 810 17 2420 0 := by decide +kernel
theorem i372_807 : zi 372 807 808 0 0 0 := by decide +kernel
theorem i372_808 : zi 372 808 809 26 0 0 := by decide +kernel
theorem i372_793 : zi 372 793 794 0 0 0 := by decide +kernel
theorem i372_794 : zi 372 794 795 26 0 0 := by decide +kernel
theorem i372_810 : zi 372 810 811 2 1 0 := by decide +kernel
theorem i372_811 : zi 372 811 812 2 0 0 := by decide +kernel
theorem i372_812 : zi 372 812 813 1 4 0 := by decide +kernel
theorem i372_813 : zi 372 813 814 0 0 1 := by decide +kernel
theorem i372_814 : zi 372 814 815 13 0 0 := by decide +kernel
theorem i372_815 : zi 372 815 816 8 0 0 := by decide +kernel
theorem i372_816 : zi 372 816 817 2 0 0 := by decide +kernel
theorem i372_817 : zi 372 817 818 1 4 0 := by decide +kernel
theorem i372_818 : zi 372 818 819 0 0 2 := by decide +kernel
theorem i372_819 : zi 372 819 820 13 0 0 := by decide +kernel
theorem i372_820 : zi 372 820 821 8 0 0 := by decide +kernel
theorem i372_821 : zi 372 821 822 2 3 0 := by decide +kernel
theorem i372_822 : zi 372 822 823 35 340 0 := by decide +kernel
theorem na_340 : z_na 340 = 4 := by decide +kernel
theorem i372_823 : zi 372 823 824 3 5 0 := by decide +kernel
theorem i372_824 : zi 372 824 825 2 2 0 := by decide +kernel
theorem i372_825 : zi 372 825 826 2 0 0 := by decide +kernel
theorem i372_826 : zi 372 826 827 1 4 0 := by decide +kernel
theorem i372_827 : zi 372 827 828 0 0 1 := by decide +kernel
theorem i372_828 : zi 372 828 829 13 0 0 := by decide +kernel
theorem i372_829 : zi 372 829 830 8 0 0 := by decide +kernel
theorem i372_830 : zi 372 830 831 2 0 0 := by decide +kernel
theorem i372_831 : zi 372 831 832 1 4 0 := by decide +kernel
theorem i372_832 : zi 372 832 833 0 0 2 := by decide +kernel
theorem i372_833 : zi 372 833 834 13 0 0 := by decide +kernel
theorem i372_834 : zi 372 834 835 8 0 0 := by decide +kernel
theorem i372_835 : zi 372 835 836 21 261 12 := by decide +kernel
theorem na_261 : z_na 261 = 2 := by decide +kernel
theorem i372_836 : zi 372 836 837 3 6 0 := by decide +kernel
theorem i372_837 : zi 372 837 838 2 2 0 := by decide +kernel
theorem i372_838 : zi 372 838 839 21 211 12 := by decide +kernel
theorem i372_839 : zi 372 839 840 1 5 0 := by decide +kernel
theorem i372_840 : zi 372 840 841 19 843 0 := by decide +kernel
theorem i372_843 : zi 372 843 844 1 5 0 := by decide +kernel
theorem i372_844 : zi 372 844 845 18 854 1 := by decide +kernel
theorem i372_845 : zi 372 845 846 2 3 0 := by decide +kernel
theorem i372_846 : zi 372 846 847 0 0 0 := by decide +kernel
theorem i372_847 : zi 372 847 848 37 0 0 := by decide +kernel
theorem i372_848 : zi 372 848 849 1 6 0 := by decide +kernel
theorem i372_849 : zi 372 849 850 30 0 0 := by decide +kernel
theorem i372_850 : zi 372 850 851 38 0 0 := by decide +kernel
theorem i372_851 : zi 372 851 852 18 854 0 := by decide +kernel
theorem i372_854 : zi 372 854 855 17 2420 0 := by decide +kernel
theorem i372_852 : zi 372 852 853 0 0 0 := by decide +kernel
theorem i372_853 : zi 372 853 854 26 0 0 := by decide +kernel
theorem i372_841 : zi 372 841 842 0 0 0 := by decide +kernel
theorem i372_842 : zi 372 842 843 26 0 0 := by decide +kernel
theorem i372_855 : zi 372 855 856 2 1 0 := by decide +kernel
theorem i372_856 : zi 372 856 857 2 0 0 := by decide +kernel
theorem i372_857 : zi 372 857 858 1 4 0 := by decide +kernel
theorem i372_858 : zi 372 858 859 0 0 1 := by decide +kernel
theorem i372_859 : zi 372 859 860 13 0 0 := by decide +kernel
theorem i372_860 : zi 372 860 861 8 0 0 := by decide +kernel
theorem i372_861 : zi 372 861 862 2 0 0 := by decide +kernel
theorem i372_862 : zi 372 862 863 1 4 0 := by decide +kernel
theorem i372_863 : zi 372 863 864 0 0 2 := by decide +kernel
theorem i372_864 : zi 372 864 865 13 0 0 := by decide +kernel
theorem i372_865 : zi 372 865 866 8 0 0 := by decide +kernel
theorem i372_866 : zi 372 866 867 2 0 0 := by decide +kernel
theorem i372_867 : zi 372 867 868 1 4 0 := by decide +kernel
theorem i372_868 : zi 372 868 869 0 0 3 := by decide +kernel
theorem i372_869 : zi 372 869 870 13 0 0 := by decide +kernel
theorem i372_870 : zi 372 870 871 8 0 0 := by decide +kernel
theorem i372_871 : zi 372 871 872 2 0 0 := by decide +kernel
theorem i372_872 : zi 372 872 873 1 4 0 := by decide +kernel
theorem i372_873 : zi 372 873 874 0 0 4 := by decide +kernel
theorem i372_874 : zi 372 874 875 13 0 0 := by decide +kernel
theorem i372_875 : zi 372 875 876 8 0 0 := by decide +kernel
theorem i372_876 : zi 372 876 877 2 0 0 := by decide +kernel
theorem i372_877 : zi 372 877 878 1 4 0 := by decide +kernel
theorem i372_878 : zi 372 878 879 0 0 5 := by decide +kernel
theorem i372_879 : zi 372 879 880 13 0 0 := by decide +kernel
theorem i372_880 : zi 372 880 881 8 0 0 := by decide +kernel
theorem i372_881 : zi 372 881 882 2 0 0 := by decide +kernel
theorem i372_882 : zi 372 882 883 1 4 0 := by decide +kernel
theorem i372_883 : zi 372 883 884 0 0 6 := by decide +kernel
theorem i372_884 : zi 372 884 885 13 0 0 := by decide +kernel
theorem i372_885 : zi 372 885 886 8 0 0 := by decide +kernel
theorem i372_886 : zi 372 886 887 2 0 0 := by decide +kernel
theorem i372_887 : zi 372 887 888 1 4 0 := by decide +kernel
theorem i372_888 : zi 372 888 889 0 0 7 := by decide +kernel
theorem i372_889 : zi 372 889 890 13 0 0 := by decide +kernel
theorem i372_890 : zi 372 890 891 8 0 0 := by decide +kernel
theorem i372_891 : zi 372 891 892 2 0 0 := by decide +kernel
theorem i372_892 : zi 372 892 893 1 4 0 := by decide +kernel
theorem i372_893 : zi 372 893 894 0 0 8 := by decide +kernel
theorem i372_894 : zi 372 894 895 13 0 0 := by decide +kernel
theorem i372_895 : zi 372 895 896 8 0 0 := by decide +kernel
theorem i372_896 : zi 372 896 897 18 899 0 := by decide +kernel
theorem i372_899 : zi 372 899 900 0 0 0 := by decide +kernel
theorem i372_897 : zi 372 897 898 0 0 1 := by decide +kernel
theorem i372_898 : zi 372 898 899 17 900 0 := by decide +kernel
theorem i372_900 : zi 372 900 901 2 3 0 := by decide +kernel
theorem i372_901 : zi 372 901 902 35 341 0 := by decide +kernel
theorem na_341 : z_na 341 = 10 := by decide +kernel
theorem i372_902 : zi 372 902 903 3 5 0 := by decide +kernel
theorem i372_903 : zi 372 903 904 2 2 0 := by decide +kernel
theorem i372_904 : zi 372 904 905 2 0 0 := by decide +kernel
theorem i372_905 : zi 372 905 906 1 4 0 := by decide +kernel
theorem i372_906 : zi 372 906 907 0 0 1 := by decide +kernel
theorem i372_907 : zi 372 907 908 13 0 0 := by decide +kernel
theorem i372_908 : zi 372 908 909 8 0 0 := by decide +kernel
theorem i372_909 : zi 372 909 910 2 0 0 := by decide +kernel
theorem i372_910 : zi 372 910 911 1 4 0 := by decide +kernel
theorem i372_911 : zi 372 911 912 0 0 2 := by decide +kernel
theorem i372_912 : zi 372 912 913 13 0 0 := by decide +kernel
theorem i372_913 : zi 372 913 914 8 0 0 := by decide +kernel
theorem i372_914 : zi 372 914 915 2 0 0 := by decide +kernel
theorem i372_915 : zi 372 915 916 1 4 0 := by decide +kernel
theorem i372_916 : zi 372 916 917 0 0 3 := by decide +kernel
theorem i372_917 : zi 372 917 918 13 0 0 := by decide +kernel
theorem i372_918 : zi 372 918 919 8 0 0 := by decide +kernel
theorem i372_919 : zi 372 919 920 2 0 0 := by decide +kernel
theorem i372_920 : zi 372 920 921 1 4 0 := by decide +kernel
theorem i372_921 : zi 372 921 922 0 0 4 := by decide +kernel
theorem i372_922 : zi 372 922 923 13 0 0 := by decide +kernel
theorem i372_923 : zi 372 923 924 8 0 0 := by decide +kernel
theorem i372_924 : zi 372 924 925 2 0 0 := by decide +kernel
theorem i372_925 : zi 372 925 926 1 4 0 := by decide +kernel
theorem i372_926 : zi 372 926 927 0 0 5 := by decide +kernel
theorem i372_927 : zi 372 927 928 13 0 0 := by decide +kernel
theorem i372_928 : zi 372 928 929 8 0 0 := by decide +kernel
theorem i372_929 : zi 372 929 930 2 0 0 := by decide +kernel
theorem i372_930 : zi 372 930 931 1 4 0 := by decide +kernel
theorem i372_931 : zi 372 931 932 0 0 6 := by decide +kernel
theorem i372_932 : zi 372 932 933 13 0 0 := by decide +kernel
theorem i372_933 : zi 372 933 934 8 0 0 := by decide +kernel
theorem i372_934 : zi 372 934 935 2 0 0 := by decide +kernel
theorem i372_935 : zi 372 935 936 1 4 0 := by decide +kernel
theorem i372_936 : zi 372 936 937 0 0 7 := by decide +kernel
theorem i372_937 : zi 372 937 938 13 0 0 := by decide +kernel
theorem i372_938 : zi 372 938 939 8 0 0 := by decide +kernel
theorem i372_939 : zi 372 939 940 2 0 0 := by decide +kernel
theorem i372_940 : zi 372 940 941 1 4 0 := by decide +kernel
theorem i372_941 : zi 372 941 942 0 0 8 := by decide +kernel
theorem i372_942 : zi 372 942 943 13 0 0 := by decide +kernel
theorem i372_943 : zi 372 943 944 8 0 0 := by decide +kernel
theorem i372_944 : zi 372 944 945 18 947 0 := by decide +kernel
theorem i372_947 : zi 372 947 948 0 0 0 := by decide +kernel
theorem i372_945 : zi 372 945 946 0 0 1 := by decide +kernel
theorem i372_946 : zi 372 946 947 17 948 0 := by decide +kernel
theorem i372_948 : zi 372 948 949 21 262 12 := by decide +kernel
theorem na_262 : z_na 262 = 8 := by decide +kernel
theorem i372_949 : zi 372 949 950 3 6 0 := by decide +kernel
theorem i372_950 : zi 372 950 951 2 2 0 := by decide +kernel
theorem i372_951 : zi 372 951 952 21 211 12 := by decide +kernel
theorem i372_952 : zi 372 952 953 1 5 0 := by decide +kernel
theorem i372_953 : zi 372 953 954 19 956 0 := by decide +kernel
theorem i372_956 : zi 372 956 957 1 5 0 := by decide +kernel
theorem i372_957 : zi 372 957 958 18 967 1 := by decide +kernel
theorem i372_958 : zi 372 958 959 2 3 0 := by decide +kernel
theorem i372_959 : zi 372 959 960 0 0 0 := by decide +kernel
theorem i372_960 : zi 372 960 961 37 0 0 := by decide +kernel
theorem i372_961 : zi 372 961 962 1 6 0 := by decide +kernel
theorem i372_962 : zi 372 962 963 30 0 0 := by decide +kernel
theorem i372_963 : zi 372 963 964 38 0 0 := by decide +kernel
theorem i372_964 : zi 372 964 965 18 967 0 := by decide +kernel
theorem i372_967 : zi 372 967 968 17 2420 0 := by decide +kernel
theorem i372_965 : zi 372 965 966 0 0 0 := by decide +kernel
theorem i372_966 : zi 372 966 967 26 0 0 := by decide +kernel
theorem i372_954 : zi 372 954 955 0 0 0 := by decide +kernel
theorem i372_955 : zi 372 955 956 26 0 0 := by decide +kernel
theorem i372_968 : zi 372 968 969 2 1 0 := by decide +kernel
theorem i372_969 : zi 372 969 970 2 0 0 := by decide +kernel
theorem i372_970 : zi 372 970 971 1 4 0 := by decide +kernel
theorem i372_971 : zi 372 971 972 0 0 1 := by decide +kernel
theorem i372_972 : zi 372 972 973 13 0 0 := by decide +kernel
theorem i372_973 : zi 372 973 974 8 0 0 := by decide +kernel
theorem i372_974 : zi 372 974 975 2 0 0 := by decide +kernel
theorem i372_975 : zi 372 975 976 1 4 0 := by decide +kernel
theorem i372_976 : zi 372 976 977 0 0 2 := by decide +kernel
theorem i372_977 : zi 372 977 978 13 0 0 := by decide +kernel
theorem i372_978 : zi 372 978 979 8 0 0 := by decide +kernel
theorem i372_979 : zi 372 979 980 2 3 0 := by decide +kernel
theorem i372_980 : zi 372 980 981 35 342 0 := by decide +kernel
theorem na_342 : z_na 342 = 4 := by decide +kernel
theorem i372_981 : zi 372 981 982 3 5 0 := by decide +kernel
theorem i372_982 : zi 372 982 983 2 2 0 := by decide +kernel
theorem i372_983 : zi 372 983 984 2 0 0 := by decide +kernel
theorem i372_984 : zi 372 984 985 1 4 0 := by decide +kernel
theorem i372_985 : zi 372 985 986 0 0 1 := by decide +kernel
theorem i372_986 : zi 372 986 987 13 0 0 := by decide +kernel
theorem i372_987 : zi 372 987 988 8 0 0 := by decide +kernel
theorem i372_988 : zi 372 988 989 2 0 0 := by decide +kernel
theorem i372_989 : zi 372 989 990 1 4 0 := by decide +kernel
theorem i372_990 : zi 372 990 991 0 0 2 := by decide +kernel
theorem i372_991 : zi 372 991 992 13 0 0 := by decide +kernel
theorem i372_992 : zi 372 992 993 8 0 0 := by decide +kernel
theorem i372_993 : zi 372 993 994 21 263 12 := by decide +kernel
theorem na_263 : z_na 263 = 2 := by decide +kernel
theorem i372_994 : zi 372 994 995 3 6 0 := by decide +kernel
theorem i372_995 : zi 372 995 996 2 2 0 := by decide +kernel
theorem i372_996 : zi 372 996 997 21 211 12 := by decide +kernel
theorem i372_997 : zi 372 997 998 1 5 0 := by decide +kernel
theorem i372_998 : zi 372 998 999 19 1001 0 := by decide +kernel
theorem i372_1001 : zi 372 1001 1002 1 5 0 := by decide +kernel
theorem i372_1002 : zi 372 1002 1003 18 1012 1 := by decide +kernel
theorem i372_1003 : zi 372 1003 1004 2 3 0 := by decide +kernel
theorem i372_1004 : zi 372 1004 1005 0 0 0 := by decide +kernel
theorem i372_1005 : zi 372 1005 1006 37 0 0 := by decide +kernel
theorem i372_1006 : zi 372 1006 1007 1 6 0 := by decide +kernel
theorem i372_1007 : zi 372 1007 1008 30 0 0 := by decide +kernel
theorem i372_1008 : zi 372 1008 1009 38 0 0 := by decide +kernel
theorem i372_1009 : zi 372 1009 1010 18 1012 0 := by decide +kernel
theorem i372_1012 : zi 372 1012 1013 17 2420 0 := by decide +kernel
theorem i372_1010 : zi 372 1010 1011 0 0 0 := by decide +kernel
theorem i372_1011 : zi 372 1011 1012 26 0 0 := by decide +kernel
theorem i372_999 : zi 372 999 1000 0 0 0 := by decide +kernel
theorem i372_1000 : zi 372 1000 1001 26 0 0 := by decide +kernel
theorem i372_1013 : zi 372 1013 1014 2 1 0 := by decide +kernel
theorem i372_1014 : zi 372 1014 1015 2 0 0 := by decide +kernel
theorem i372_1015 : zi 372 1015 1016 1 4 0 := by decide +kernel
theorem i372_1016 : zi 372 1016 1017 0 0 1 := by decide +kernel
theorem i372_1017 : zi 372 1017 1018 13 0 0 := by decide +kernel
theorem i372_1018 : zi 372 1018 1019 8 0 0 := by decide +kernel
theorem i372_1019 : zi 372 1019 1020 2 3 0 := by decide +kernel
theorem i372_1020 : zi 372 1020 1021 35 343 0 := by decide +kernel
theorem na_343 : z_na 343 = 3 := by decide +kernel
theorem i372_1021 : zi 372 1021 1022 3 5 0 := by decide +kernel
theorem i372_1022 : zi 372 1022 1023 2 2 0 := by decide +kernel
theorem i372_1023 : zi 372 1023 1024 2 0 0 := by decide +kernel
theorem i372_1024 : zi 372 1024 1025 1 4 0 := by decide +kernel
theorem i372_1025 : zi 372 1025 1026 0 0 1 := by decide +kernel
theorem i372_1026 : zi 372 1026 1027 13 0 0 := by decide +kernel
theorem i372_1027 : zi 372 1027 1028 8 0 0 := by decide +kernel
theorem i372_1028 : zi 372 1028 1029 21 265 12 := by decide +kernel
theorem na_265 : z_na 265 = 1 := by decide +kernel
theorem i372_1029 : zi 372 1029 1030 3 6 0 := by decide +kernel
theorem i372_1030 : zi 372 1030 1031 2 2 0 := by decide +kernel
theorem i372_1031 : zi 372 1031 1032 21 211 12 := by decide +kernel
theorem i372_1032 : zi 372 1032 1033 1 5 0 := by decide +kernel
theorem i372_1033 : zi 372 1033 1034 19 1036 0 := by decide +kernel
theorem i372_1036 : zi 372 1036 1037 1 5 0 := by decide +kernel
theorem i372_1037 : zi 372 1037 1038 18 1047 1 := by decide +kernel
theorem i372_1038 : zi 372 1038 1039 2 3 0 := by decide +kernel
theorem i372_1039 : zi 372 1039 1040 0 0 0 := by decide +kernel
theorem i372_1040 : zi 372 1040 1041 37 0 0 := by decide +kernel
theorem i372_1041 : zi 372 1041 1042 1 6 0 := by decide +kernel
theorem i372_1042 : zi 372 1042 1043 30 0 0 := by decide +kernel
theorem i372_1043 : zi 372 1043 1044 38 0 0 := by decide +kernel
theorem i372_1044 : zi 372 1044 1045 18 1047 0 := by decide +kernel
theorem i372_1047 : zi 372 1047 1048 17 2420 0 := by decide +kernel
theorem i372_1045 : zi 372 1045 1046 0 0 0 := by decide +kernel
theorem i372_1046 : zi 372 1046 1047 26 0 0 := by decide +kernel
theorem i372_1034 : zi 372 1034 1035 0 0 0 := by decide +kernel
theorem i372_1035 : zi 372 1035 1036 26 0 0 := by decide +kernel
theorem i372_1048 : zi 372 1048 1049 2 1 0 := by decide +kernel
theorem i372_1049 : zi 372 1049 1050 2 0 0 := by decide +kernel
theorem i372_1050 : zi 372 1050 1051 1 4 0 := by decide +kernel
theorem i372_1051 : zi 372 1051 1052 0 0 1 := by decide +kernel
theorem i372_1052 : zi 372 1052 1053 13 0 0 := by decide +kernel
theorem i372_1053 : zi 372 1053 1054 8 0 0 := by decide +kernel
theorem i372_1054 : zi 372 1054 1055 2 3 0 := by decide +kernel
theorem i372_1055 : zi 372 1055 1056 35 344 0 := by decide +kernel
theorem na_344 : z_na 344 = 3 := by decide +kernel
theorem i372_1056 : zi 372 1056 1057 3 5 0 := by decide +kernel
theorem i372_1057 : zi 372 1057 1058 2 2 0 := by decide +kernel
theorem i372_1058 : zi 372 1058 1059 2 0 0 := by decide +kernel
theorem i372_1059 : zi 372 1059 1060 1 4 0 := by decide +kernel
theorem i372_1060 : zi 372 1060 1061 0 0 1 := by decide +kernel
theorem i372_1061 : zi 372 1061 1062 13 0 0 := by decide +kernel
theorem i372_1062 : zi 372 1062 1063 8 0 0 := by decide +kernel
theorem i372_1063 : zi 372 1063 1064 21 266 12 := by decide +kernel
theorem na_266 : z_na 266 = 1 := by decide +kernel
theorem i372_1064 : zi 372 1064 1065 3 6 0 := by decide +kernel
theorem i372_1065 : zi 372 1065 1066 2 2 0 := by decide +kernel
theorem i372_1066 : zi 372 1066 1067 21 211 12 := by decide +kernel
theorem i372_1067 : zi 372 1067 1068 1 5 0 := by decide +kernel
theorem i372_1068 : zi 372 1068 1069 19 1071 0 := by decide +kernel
theorem i372_1071 : zi 372 1071 1072 1 5 0 := by decide +kernel
theorem i372_1072 : zi 372 1072 1073 18 1082 1 := by decide +kernel
theorem i372_1073 : zi 372 1073 1074 2 3 0 := by decide +kernel
theorem i372_1074 : zi 372 1074 1075 0 0 0 := by decide +kernel
theorem i372_1075 : zi 372 1075 1076 37 0 0 := by decide +kernel
theorem i372_1076 : zi 372 1076 1077 1 6 0 := by decide +kernel
theorem i372_1077 : zi 372 1077 1078 30 0 0 := by decide +kernel
theorem i372_1078 : zi 372 1078 1079 38 0 0 := by decide +kernel
theorem i372_1079 : zi 372 1079 1080 18 1082 0 := by decide +kernel
theorem i372_1082 : zi 372 1082 1083 17 2420 0 := by decide +kernel
theorem i372_1080 : zi 372 1080 1081 0 0 0 := by decide +kernel
theorem i372_1081 : zi 372 1081 1082 26 0 0 := by decide +kernel
theorem i372_1069 : zi 372 1069 1070 0 0 0 := by decide +kernel
theorem i372_1070 : zi 372 1070 1071 26 0 0 := by decide +kernel
theorem i372_1083 : zi 372 1083 1084 2 1 0 := by decide +kernel
theorem i372_1084 : zi 372 1084 1085 2 0 0 := by decide +kernel
theorem i372_1085 : zi 372 1085 1086 1 4 0 := by decide +kernel
theorem i372_1086 : zi 372 1086 1087 0 0 1 := by decide +kernel
theorem i372_1087 : zi 372 1087 1088 13 0 0 := by decide +kernel
theorem i372_1088 : zi 372 1088 1089 8 0 0 := by decide +kernel
theorem i372_1089 : zi 372 1089 1090 2 3 0 := by decide +kernel
theorem i372_1090 : zi 372 1090 1091 35 345 0 := by decide +kernel
theorem na_345 : z_na 345 = 3 := by decide +kernel
theorem i372_1091 : zi 372 1091 1092 3 5 0 := by decide +kernel
theorem i372_1092 : zi 372 1092 1093 2 2 0 := by decide +kernel
theorem i372_1093 : zi 372 1093 1094 2 0 0 := by decide +kernel
theorem i372_1094 : zi 372 1094 1095 1 4 0 := by decide +kernel
theorem i372_1095 : zi 372 1095 1096 0 0 1 := by decide +kernel
theorem i372_1096 : zi 372 1096 1097 13 0 0 := by decide +kernel
theorem i372_1097 : zi 372 1097 1098 8 0 0 := by decide +kernel
theorem i372_1098 : zi 372 1098 1099 21 267 12 := by decide +kernel
theorem na_267 : z_na 267 = 1 := by decide +kernel
theorem i372_1099 : zi 372 1099 1100 3 6 0 := by decide +kernel
theorem i372_1100 : zi 372 1100 1101 2 2 0 := by decide +kernel
theorem i372_1101 : zi 372 1101 1102 21 211 12 := by decide +kernel
theorem i372_1102 : zi 372 1102 1103 1 5 0 := by decide +kernel
theorem i372_1103 : zi 372 1103 1104 19 1106 0 := by decide +kernel
theorem i372_1106 : zi 372 1106 1107 1 5 0 := by decide +kernel
theorem i372_1107 : zi 372 1107 1108 18 1120 1 := by decide +kernel
theorem i372_1108 : zi 372 1108 1109 2 3 0 := by decide +kernel
theorem i372_1109 : zi 372 1109 1110 0 0 0 := by decide +kernel
theorem i372_1110 : zi 372 1110 1111 37 0 0 := by decide +kernel
theorem i372_1111 : zi 372 1111 1112 1 6 0 := by decide +kernel
theorem i372_1112 : zi 372 1112 1113 18 1115 0 := by decide +kernel
theorem i372_1113 : zi 372 1113 1114 39 0 1 := by decide +kernel
theorem i372_1114 : zi 372 1114 1115 17 1116 0 := by decide +kernel
theorem i372_1115 : zi 372 1115 1116 39 0 0 := by decide +kernel
theorem i372_1116 : zi 372 1116 1117 38 0 0 := by decide +kernel
theorem i372_1117 : zi 372 1117 1118 18 1120 0 := by decide +kernel
theorem i372_1120 : zi 372 1120 1121 17 2420 0 := by decide +kernel
theorem i372_1118 : zi 372 1118 1119 0 0 0 := by decide +kernel
theorem i372_1119 : zi 372 1119 1120 26 0 0 := by decide +kernel
theorem i372_1104 : zi 372 1104 1105 0 0 0 := by decide +kernel
theorem i372_1105 : zi 372 1105 1106 26 0 0 := by decide +kernel
theorem i372_1121 : zi 372 1121 1122 2 1 0 := by decide +kernel
theorem i372_1122 : zi 372 1122 1123 2 0 0 := by decide +kernel
theorem i372_1123 : zi 372 1123 1124 1 4 0 := by decide +kernel
theorem i372_1124 : zi 372 1124 1125 0 0 1 := by decide +kernel
theorem i372_1125 : zi 372 1125 1126 13 0 0 := by decide +kernel
theorem i372_1126 : zi 372 1126 1127 8 0 0 := by decide +kernel
theorem i372_1127 : zi 372 1127 1128 2 0 0 := by decide +kernel
theorem i372_1128 : zi 372 1128 1129 1 4 0 := by decide +kernel
theorem i372_1129 : zi 372 1129 1130 0 0 2 := by decide +kernel
theorem i372_1130 : zi 372 1130 1131 13 0 0 := by decide +kernel
theorem i372_1131 : zi 372 1131 1132 8 0 0 := by decide +kernel
theorem i372_1132 : zi 372 1132 1133 2 3 0 := by decide +kernel
theorem i372_1133 : zi 372 1133 1134 35 346 0 := by decide +kernel
theorem na_346 : z_na 346 = 4 := by decide +kernel
theorem i372_1134 : zi 372 1134 1135 3 5 0 := by decide +kernel
theorem i372_1135 : zi 372 1135 1136 2 2 0 := by decide +kernel
theorem i372_1136 : zi 372 1136 1137 2 0 0 := by decide +kernel
theorem i372_1137 : zi 372 1137 1138 1 4 0 := by decide +kernel
theorem i372_1138 : zi 372 1138 1139 0 0 1 := by decide +kernel
theorem i372_1139 : zi 372 1139 1140 13 0 0 := by decide +kernel
theorem i372_1140 : zi 372 1140 1141 8 0 0 := by decide +kernel
theorem i372_1141 : zi 372 1141 1142 2 0 0 := by decide +kernel
theorem i372_1142 : zi 372 1142 1143 1 4 0 := by decide +kernel
theorem i372_1143 : zi 372 1143 1144 0 0 2 := by decide +kernel
theorem i372_1144 : zi 372 1144 1145 13 0 0 := by decide +kernel
theorem i372_1145 : zi 372 1145 1146 8 0 0 := by decide +kernel
theorem i372_1146 : zi 372 1146 1147 21 268 12 := by decide +kernel
theorem na_268 : z_na 268 = 2 := by decide +kernel
theorem i372_1147 : zi 372 1147 1148 3 6 0 := by decide +kernel
theorem i372_1148 : zi 372 1148 1149 2 2 0 := by decide +kernel
theorem i372_1149 : zi 372 1149 1150 21 211 12 := by decide +kernel
theorem i372_1150 : zi 372 1150 1151 1 5 0 := by decide +kernel
theorem i372_1151 : zi 372 1151 1152 19 1154 0 := by decide +kernel
theorem i372_1154 : zi 372 1154 1155 1 5 0 := by decide +kernel
theorem i372_1155 : zi 372 1155 1156 18 1165 1 := by decide +kernel
theorem i372_1156 : zi 372 1156 1157 2 3 0 := by decide +kernel
theorem i372_1157 : zi 372 1157 1158 0 0 0 := by decide +kernel
theorem i372_1158 : zi 372 1158 1159 37 0 0 := by decide +kernel
theorem i372_1159 : zi 372 1159 1160 1 6 0 := by decide +kernel
theorem i372_1160 : zi 372 1160 1161 30 0 0 := by decide +kernel
theorem i372_1161 : zi 372 1161 1162 38 0 0 := by decide +kernel
theorem i372_1162 : zi 372 1162 1163 18 1165 0 := by decide +kernel
theorem i372_1165 : zi 372 1165 1166 17 2420 0 := by decide +kernel
theorem i372_1163 : zi 372 1163 1164 0 0 0 := by decide +kernel
theorem i372_1164 : zi 372 1164 1165 26 0 0 := by decide +kernel
theorem i372_1152 : zi 372 1152 1153 0 0 0 := by decide +kernel
theorem i372_1153 : zi 372 1153 1154 26 0 0 := by decide +kernel
theorem i372_1166 : zi 372 1166 1167 2 1 0 := by decide +kernel
theorem i372_1167 : zi 372 1167 1168 2 0 0 := by decide +kernel
theorem i372_1168 : zi 372 1168 1169 1 4 0 := by decide +kernel
theorem i372_1169 : zi 372 1169 1170 0 0 1 := by decide +kernel
theorem i372_1170 : zi 372 1170 1171 13 0 0 := by decide +kernel
theorem i372_1171 : zi 372 1171 1172 8 0 0 := by decide +kernel
theorem i372_1172 : zi 372 1172 1173 2 0 0 := by decide +kernel
theorem i372_1173 : zi 372 1173 1174 1 4 0 := by decide +kernel
theorem i372_1174 : zi 372 1174 1175 0 0 2 := by decide +kernel
theorem i372_1175 : zi 372 1175 1176 13 0 0 := by decide +kernel
theorem i372_1176 : zi 372 1176 1177 8 0 0 := by decide +kernel
theorem i372_1177 : zi 372 1177 1178 2 0 0 := by decide +kernel
theorem i372_1178 : zi 372 1178 1179 1 4 0 := by decide +kernel
theorem i372_1179 : zi 372 1179 1180 0 0 3 := by decide +kernel
theorem i372_1180 : zi 372 1180 1181 13 0 0 := by decide +kernel
theorem i372_1181 : zi 372 1181 1182 8 0 0 := by decide +kernel
theorem i372_1182 : zi 372 1182 1183 2 0 0 := by decide +kernel
theorem i372_1183 : zi 372 1183 1184 1 4 0 := by decide +kernel
theorem i372_1184 : zi 372 1184 1185 0 0 4 := by decide +kernel
theorem i372_1185 : zi 372 1185 1186 13 0 0 := by decide +kernel
theorem i372_1186 : zi 372 1186 1187 8 0 0 := by decide +kernel
theorem i372_1187 : zi 372 1187 1188 2 3 0 := by decide +kernel
theorem i372_1188 : zi 372 1188 1189 35 347 0 := by decide +kernel
theorem na_347 : z_na 347 = 6 := by decide +kernel
theorem i372_1189 : zi 372 1189 1190 3 5 0 := by decide +kernel
theorem i372_1190 : zi 372 1190 1191 2 2 0 := by decide +kernel
theorem i372_1191 : zi 372 1191 1192 2 0 0 := by decide +kernel
theorem i372_1192 : zi 372 1192 1193 1 4 0 := by decide +kernel
theorem i372_1193 : zi 372 1193 1194 0 0 1 := by decide +kernel
theorem i372_1194 : zi 372 1194 1195 13 0 0 := by decide +kernel
theorem i372_1195 : zi 372 1195 1196 8 0 0 := by decide +kernel
theorem i372_1196 : zi 372 1196 1197 2 0 0 := by decide +kernel
theorem i372_1197 : zi 372 1197 1198 1 4 0 := by decide +kernel
theorem i372_1198 : zi 372 1198 1199 0 0 2 := by decide +kernel
theorem i372_1199 : zi 372 1199 1200 13 0 0 := by decide +kernel
theorem i372_1200 : zi 372 1200 1201 8 0 0 := by decide +kernel
theorem i372_1201 : zi 372 1201 1202 2 0 0 := by decide +kernel
theorem i372_1202 : zi 372 1202 1203 1 4 0 := by decide +kernel
theorem i372_1203 : zi 372 1203 1204 0 0 3 := by decide +kernel
theorem i372_1204 : zi 372 1204 1205 13 0 0 := by decide +kernel
theorem i372_1205 : zi 372 1205 1206 8 0 0 := by decide +kernel
theorem i372_1206 : zi 372 1206 1207 2 0 0 := by decide +kernel
theorem i372_1207 : zi 372 1207 1208 1 4 0 := by decide +kernel
theorem i372_1208 : zi 372 1208 1209 0 0 4 := by decide +kernel
theorem i372_1209 : zi 372 1209 1210 13 0 0 := by decide +kernel
theorem i372_1210 : zi 372 1210 1211 8 0 0 := by decide +kernel
theorem i372_1211 : zi 372 1211 1212 21 290 12 := by decide +kernel
theorem na_290 : z_na 290 = 4 := by decide +kernel
theorem i372_1212 : zi 372 1212 1213 3 6 0 := by decide +kernel
theorem i372_1213 : zi 372 1213 1214 2 2 0 := by decide +kernel
theorem i372_1214 : zi 372 1214 1215 21 211 12 := by decide +kernel
theorem i372_1215 : zi 372 1215 1216 1 5 0 := by decide +kernel
theorem i372_1216 : zi 372 1216 1217 19 1219 0 := by decide +kernel
theorem i372_1219 : zi 372 1219 1220 1 5 0 := by decide +kernel
theorem i372_1220 : zi 372 1220 1221 18 1230 1 := by decide +kernel
theorem i372_1221 : zi 372 1221 1222 2 3 0 := by decide +kernel
theorem i372_1222 : zi 372 1222 1223 0 0 0 := by decide +kernel
theorem i372_1223 : zi 372 1223 1224 37 0 0 := by decide +kernel
theorem i372_1224 : zi 372 1224 1225 1 6 0 := by decide +kernel
theorem i372_1225 : zi 372 1225 1226 30 0 0 := by decide +kernel
theorem i372_1226 : zi 372 1226 1227 38 0 0 := by decide +kernel
theorem i372_1227 : zi 372 1227 1228 18 1230 0 := by decide +kernel
theorem i372_1230 : zi 372 1230 1231 17 2420 0 := by decide +kernel
theorem i372_1228 : zi 372 1228 1229 0 0 0 := by decide +kernel
theorem i372_1229 : zi 372 1229 1230 26 0 0 := by decide +kernel
theorem i372_1217 : zi 372 1217 1218 0 0 0 := by decide +kernel
theorem i372_1218 : zi 372 1218 1219 26 0 0 := by decide +kernel
theorem i372_1231 : zi 372 1231 1232 2 1 0 := by decide +kernel
theorem i372_1232 : zi 372 1232 1233 2 0 0 := by decide +kernel
theorem i372_1233 : zi 372 1233 1234 1 4 0 := by decide +kernel
theorem i372_1234 : zi 372 1234 1235 0 0 1 := by decide +kernel
theorem i372_1235 : zi 372 1235 1236 13 0 0 := by decide +kernel
theorem i372_1236 : zi 372 1236 1237 8 0 0 := by decide +kernel
theorem i372_1237 : zi 372 1237 1238 2 0 0 := by decide +kernel
theorem i372_1238 : zi 372 1238 1239 1 4 0 := by decide +kernel
theorem i372_1239 : zi 372 1239 1240 0 0 2 := by decide +kernel
theorem i372_1240 : zi 372 1240 1241 13 0 0 := by decide +kernel
theorem i372_1241 : zi 372 1241 1242 8 0 0 := by decide +kernel
theorem i372_1242 : zi 372 1242 1243 2 0 0 := by decide +kernel
theorem i372_1243 : zi 372 1243 1244 1 4 0 := by decide +kernel
theorem i372_1244 : zi 372 1244 1245 0 0 3 := by decide +kernel
theorem i372_1245 : zi 372 1245 1246 13 0 0 := by decide +kernel
theorem i372_1246 : zi 372 1246 1247 8 0 0 := by decide +kernel
theorem i372_1247 : zi 372 1247 1248 2 0 0 := by decide +kernel
theorem i372_1248 : zi 372 1248 1249 1 4 0 := by decide +kernel
theorem i372_1249 : zi 372 1249 1250 0 0 4 := by decide +kernel
theorem i372_1250 : zi 372 1250 1251 13 0 0 := by decide +kernel
theorem i372_1251 : zi 372 1251 1252 8 0 0 := by decide +kernel
theorem i372_1252 : zi 372 1252 1253 2 0 0 := by decide +kernel
theorem i372_1253 : zi 372 1253 1254 1 4 0 := by decide +kernel
theorem i372_1254 : zi 372 1254 1255 0 0 5 := by decide +kernel
theorem i372_1255 : zi 372 1255 1256 13 0 0 := by decide +kernel
theorem i372_1256 : zi 372 1256 1257 8 0 0 := by decide +kernel
theorem i372_1257 : zi 372 1257 1258 2 3 0 := by decide +kernel
theorem i372_1258 : zi 372 1258 1259 35 348 0 := by decide +kernel
theorem na_348 : z_na 348 = 7 := by decide +kernel
theorem i372_1259 : zi 372 1259 1260 3 5 0 := by decide +kernel
theorem i372_1260 : zi 372 1260 1261 2 2 0 := by decide +kernel
theorem i372_1261 : zi 372 1261 1262 2 0 0 := by decide +kernel
theorem i372_1262 : zi 372 1262 1263 1 4 0 := by decide +kernel
theorem i372_1263 : zi 372 1263 1264 0 0 1 := by decide +kernel
theorem i372_1264 : zi 372 1264 1265 13 0 0 := by decide +kernel
theorem i372_1265 : zi 372 1265 1266 8 0 0 := by decide +kernel
theorem i372_1266 : zi 372 1266 1267 2 0 0 := by decide +kernel
theorem i372_1267 : zi 372 1267 1268 1 4 0 := by decide +kernel
theorem i372_1268 : zi 372 1268 1269 0 0 2 := by decide +kernel
theorem i372_1269 : zi 372 1269 1270 13 0 0 := by decide +kernel
theorem i372_1270 : zi 372 1270 1271 8 0 0 := by decide +kernel
theorem i372_1271 : zi 372 1271 1272 2 0 0 := by decide +kernel
theorem i372_1272 : zi 372 1272 1273 1 4 0 := by decide +kernel
theorem i372_1273 : zi 372 1273 1274 0 0 3 := by decide +kernel
theorem i372_1274 : zi 372 1274 1275 13 0 0 := by decide +kernel
theorem i372_1275 : zi 372 1275 1276 8 0 0 := by decide +kernel
theorem i372_1276 : zi 372 1276 1277 2 0 0 := by decide +kernel
theorem i372_1277 : zi 372 1277 1278 1 4 0 := by decide +kernel
theorem i372_1278 : zi 372 1278 1279 0 0 4 := by decide +kernel
theorem i372_1279 : zi 372 1279 1280 13 0 0 := by decide +kernel
theorem i372_1280 : zi 372 1280 1281 8 0 0 := by decide +kernel
theorem i372_1281 : zi 372 1281 1282 2 0 0 := by decide +kernel
theorem i372_1282 : zi 372 1282 1283 1 4 0 := by decide +kernel
theorem i372_1283 : zi 372 1283 1284 0 0 5 := by decide +kernel
theorem i372_1284 : zi 372 1284 1285 13 0 0 := by decide +kernel
theorem i372_1285 : zi 372 1285 1286 8 0 0 := by decide +kernel
theorem i372_1286 : zi 372 1286 1287 21 292 12 := by decide +kernel
theorem na_292 : z_na 292 = 5 := by decide +kernel
theorem i372_1287 : zi 372 1287 1288 3 6 0 := by decide +kernel
theorem i372_1288 : zi 372 1288 1289 2 2 0 := by decide +kernel
theorem i372_1289 : zi 372 1289 1290 21 211 12 := by decide +kernel
theorem i372_1290 : zi 372 1290 1291 1 5 0 := by decide +kernel
theorem i372_1291 : zi 372 1291 1292 19 1294 0 := by decide +kernel
theorem i372_1294 : zi 372 1294 1295 1 5 0 := by decide +kernel
theorem i372_1295 : zi 372 1295 1296 18 1305 1 := by decide +kernel
theorem i372_1296 : zi 372 1296 1297 2 3 0 := by decide +kernel
theorem i372_1297 : zi 372 1297 1298 0 0 0 := by decide +kernel
theorem i372_1298 : zi 372 1298 1299 37 0 0 := by decide +kernel
theorem i372_1299 : zi 372 1299 1300 1 6 0 := by decide +kernel
theorem i372_1300 : zi 372 1300 1301 30 0 0 := by decide +kernel
theorem i372_1301 : zi 372 1301 1302 38 0 0 := by decide +kernel
theorem i372_1302 : zi 372 1302 1303 18 1305 0 := by decide +kernel
theorem i372_1305 : zi 372 1305 1306 17 2420 0 := by decide +kernel
theorem i372_1303 : zi 372 1303 1304 0 0 0 := by decide +kernel
theorem i372_1304 : zi 372 1304 1305 26 0 0 := by decide +kernel
theorem i372_1292 : zi 372 1292 1293 0 0 0 := by decide +kernel
theorem i372_1293 : zi 372 1293 1294 26 0 0 := by decide +kernel
theorem i372_1306 : zi 372 1306 1307 2 1 0 := by decide +kernel
theorem i372_1307 : zi 372 1307 1308 2 0 0 := by decide +kernel
theorem i372_1308 : zi 372 1308 1309 1 4 0 := by decide +kernel
theorem i372_1309 : zi 372 1309 1310 0 0 1 := by decide +kernel
theorem i372_1310 : zi 372 1310 1311 13 0 0 := by decide +kernel
theorem i372_1311 : zi 372 1311 1312 8 0 0 := by decide +kernel
theorem i372_1312 : zi 372 1312 1313 2 0 0 := by decide +kernel
theorem i372_1313 : zi 372 1313 1314 1 4 0 := by decide +kernel
theorem i372_1314 : zi 372 1314 1315 0 0 2 := by decide +kernel
theorem i372_1315 : zi 372 1315 1316 13 0 0 := by decide +kernel
theorem i372_1316 : zi 372 1316 1317 8 0 0 := by decide +kernel
theorem i372_1317 : zi 372 1317 1318 2 0 0 := by decide +kernel
theorem i372_1318 : zi 372 1318 1319 1 4 0 := by decide +kernel
theorem i372_1319 : zi 372 1319 1320 0 0 3 := by decide +kernel
theorem i372_1320 : zi 372 1320 1321 13 0 0 := by decide +kernel
theorem i372_1321 : zi 372 1321 1322 8 0 0 := by decide +kernel
theorem i372_1322 : zi 372 1322 1323 2 0 0 := by decide +kernel
theorem i372_1323 : zi 372 1323 1324 1 4 0 := by decide +kernel
theorem i372_1324 : zi 372 1324 1325 0 0 4 := by decide +kernel
theorem i372_1325 : zi 372 1325 1326 13 0 0 := by decide +kernel
theorem i372_1326 : zi 372 1326 1327 8 0 0 := by decide +kernel
theorem i372_1327 : zi 372 1327 1328 2 0 0 := by decide +kernel
theorem i372_1328 : zi 372 1328 1329 1 4 0 := by decide +kernel
theorem i372_1329 : zi 372 1329 1330 0 0 5 := by decide +kernel
theorem i372_1330 : zi 372 1330 1331 13 0 0 := by decide +kernel
theorem i372_1331 : zi 372 1331 1332 8 0 0 := by decide +kernel
theorem i372_1332 : zi 372 1332 1333 2 3 0 := by decide +kernel
theorem i372_1333 : zi 372 1333 1334 35 349 0 := by decide +kernel
theorem na_349 : z_na 349 = 7 := by decide +kernel
theorem i372_1334 : zi 372 1334 1335 3 5 0 := by decide +kernel
theorem i372_1335 : zi 372 1335 1336 2 2 0 := by decide +kernel
theorem i372_1336 : zi 372 1336 1337 2 0 0 := by decide +kernel
theorem i372_1337 : zi 372 1337 1338 1 4 0 := by decide +kernel
theorem i372_1338 : zi 372 1338 1339 0 0 1 := by decide +kernel
theorem i372_1339 : zi 372 1339 1340 13 0 0 := by decide +kernel
theorem i372_1340 : zi 372 1340 1341 8 0 0 := by decide +kernel
theorem i372_1341 : zi 372 1341 1342 2 0 0 := by decide +kernel
theorem i372_1342 : zi 372 1342 1343 1 4 0 := by decide +kernel
theorem i372_1343 : zi 372 1343 1344 0 0 2 := by decide +kernel
theorem i372_1344 : zi 372 1344 1345 13 0 0 := by decide +kernel
theorem i372_1345 : zi 372 1345 1346 8 0 0 := by decide +kernel
theorem i372_1346 : zi 372 1346 1347 2 0 0 := by decide +kernel
theorem i372_1347 : zi 372 1347 1348 1 4 0 := by decide +kernel
theorem i372_1348 : zi 372 1348 1349 0 0 3 := by decide +kernel
theorem i372_1349 : zi 372 1349 1350 13 0 0 := by decide +kernel
theorem i372_1350 : zi 372 1350 1351 8 0 0 := by decide +kernel
theorem i372_1351 : zi 372 1351 1352 2 0 0 := by decide +kernel
theorem i372_1352 : zi 372 1352 1353 1 4 0 := by decide +kernel
theorem i372_1353 : zi 372 1353 1354 0 0 4 := by decide +kernel
theorem i372_1354 : zi 372 1354 1355 13 0 0 := by decide +kernel
theorem i372_1355 : zi 372 1355 1356 8 0 0 := by decide +kernel
theorem i372_1356 : zi 372 1356 1357 2 0 0 := by decide +kernel
theorem i372_1357 : zi 372 1357 1358 1 4 0 := by decide +kernel
theorem i372_1358 : zi 372 1358 1359 0 0 5 := by decide +kernel
theorem i372_1359 : zi 372 1359 1360 13 0 0 := by decide +kernel
theorem i372_1360 : zi 372 1360 1361 8 0 0 := by decide +kernel
theorem i372_1361 : zi 372 1361 1362 21 294 12 := by decide +kernel
theorem na_294 : z_na 294 = 5 := by decide +kernel
theorem i372_1362 : zi 372 1362 1363 3 6 0 := by decide +kernel
theorem i372_1363 : zi 372 1363 1364 2 2 0 := by decide +kernel
theorem i372_1364 : zi 372 1364 1365 21 211 12 := by decide +kernel
theorem i372_1365 : zi 372 1365 1366 1 5 0 := by decide +kernel
theorem i372_1366 : zi 372 1366 1367 19 1369 0 := by decide +kernel
theorem i372_1369 : zi 372 1369 1370 1 5 0 := by decide +kernel
theorem i372_1370 : zi 372 1370 1371 18 1380 1 := by decide +kernel
theorem i372_1371 : zi 372 1371 1372 2 3 0 := by decide +kernel
theorem i372_1372 : zi 372 1372 1373 0 0 0 := by decide +kernel
theorem i372_1373 : zi 372 1373 1374 37 0 0 := by decide +kernel
theorem i372_1374 : zi 372 1374 1375 1 6 0 := by decide +kernel
theorem i372_1375 : zi 372 1375 1376 30 0 0 := by decide +kernel
theorem i372_1376 : zi 372 1376 1377 38 0 0 := by decide +kernel
theorem i372_1377 : zi 372 1377 1378 18 1380 0 := by decide +kernel
theorem i372_1380 : zi 372 1380 1381 17 2420 0 := by decide +kernel
theorem i372_1378 : zi 372 1378 1379 0 0 0 := by decide +kernel
theorem i372_1379 : zi 372 1379 1380 26 0 0 := by decide +kernel
theorem i372_1367 : zi 372 1367 1368 0 0 0 := by decide +kernel
theorem i372_1368 : zi 372 1368 1369 26 0 0 := by decide +kernel
theorem i372_1381 : zi 372 1381 1382 2 1 0 := by decide +kernel
theorem i372_1382 : zi 372 1382 1383 2 0 0 := by decide +kernel
theorem i372_1383 : zi 372 1383 1384 1 4 0 := by decide +kernel
theorem i372_1384 : zi 372 1384 1385 0 0 1 := by decide +kernel
theorem i372_1385 : zi 372 1385 1386 13 0 0 := by decide +kernel
theorem i372_1386 : zi 372 1386 1387 8 0 0 := by decide +kernel
theorem i372_1387 : zi 372 1387 1388 2 0 0 := by decide +kernel
theorem i372_1388 : zi 372 1388 1389 1 4 0 := by decide +kernel
theorem i372_1389 : zi 372 1389 1390 0 0 2 := by decide +kernel
theorem i372_1390 : zi 372 1390 1391 13 0 0 := by decide +kernel
theorem i372_1391 : zi 372 1391 1392 8 0 0 := by decide +kernel
theorem i372_1392 : zi 372 1392 1393 2 3 0 := by decide +kernel
theorem i372_1393 : zi 372 1393 1394 35 350 0 := by decide +kernel
theorem na_350 : z_na 350 = 4 := by decide +kernel
theorem i372_1394 : zi 372 1394 1395 3 5 0 := by decide +kernel
theorem i372_1395 : zi 372 1395 1396 2 2 0 := by decide +kernel
theorem i372_1396 : zi 372 1396 1397 2 0 0 := by decide +kernel
theorem i372_1397 : zi 372 1397 1398 1 4 0 := by decide +kernel
theorem i372_1398 : zi 372 1398 1399 0 0 1 := by decide +kernel
theorem i372_1399 : zi 372 1399 1400 13 0 0 := by decide +kernel
theorem i372_1400 : zi 372 1400 1401 8 0 0 := by decide +kernel
theorem i372_1401 : zi 372 1401 1402 2 0 0 := by decide +kernel
theorem i372_1402 : zi 372 1402 1403 1 4 0 := by decide +kernel
theorem i372_1403 : zi 372 1403 1404 0 0 2 := by decide +kernel
theorem i372_1404 : zi 372 1404 1405 13 0 0 := by decide +kernel
theorem i372_1405 : zi 372 1405 1406 8 0 0 := by decide +kernel
theorem i372_1406 : zi 372 1406 1407 21 295 12 := by decide +kernel
theorem na_295 : z_na 295 = 2 := by decide +kernel
theorem i372_1407 : zi 372 1407 1408 3 6 0 := by decide +kernel
theorem i372_1408 : zi 372 1408 1409 2 2 0 := by decide +kernel
theorem i372_1409 : zi 372 1409 1410 21 211 12 := by decide +kernel
theorem i372_1410 : zi 372 1410 1411 1 5 0 := by decide +kernel
theorem i372_1411 : zi 372 1411 1412 19 1414 0 := by decide +kernel
theorem i372_1414 : zi 372 1414 1415 1 5 0 := by decide +kernel
theorem i372_1415 : zi 372 1415 1416 18 1425 1 := by decide +kernel
theorem i372_1416 : zi 372 1416 1417 2 3 0 := by decide +kernel
theorem i372_1417 : zi 372 1417 1418 0 0 0 := by decide +kernel
theorem i372_1418 : zi 372 1418 1419 37 0 0 := by decide +kernel
theorem i372_1419 : zi 372 1419 1420 1 6 0 := by decide +kernel
theorem i372_1420 : zi 372 1420 1421 30 0 0 := by decide +kernel
theorem i372_1421 : zi 372 1421 1422 38 0 0 := by decide +kernel
theorem i372_1422 : zi 372 1422 1423 18 1425 0 := by decide +kernel
theorem i372_1425 : zi 372 1425 1426 17 2420 0 := by decide +kernel
theorem i372_1423 : zi 372 1423 1424 0 0 0 := by decide +kernel
theorem i372_1424 : zi 372 1424 1425 26 0 0 := by decide +kernel
theorem i372_1412 : zi 372 1412 1413 0 0 0 := by decide +kernel
theorem i372_1413 : zi 372 1413 1414 26 0 0 := by decide +kernel
theorem i372_1426 : zi 372 1426 1427 2 1 0 := by decide +kernel
theorem i372_1427 : zi 372 1427 1428 2 0 0 := by decide +kernel
theorem i372_1428 : zi 372 1428 1429 1 4 0 := by decide +kernel
theorem i372_1429 : zi 372 1429 1430 0 0 1 := by decide +kernel
theorem i372_1430 : zi 372 1430 1431 13 0 0 := by decide +kernel
theorem i372_1431 : zi 372 1431 1432 8 0 0 := by decide +kernel
theorem i372_1432 : zi 372 1432 1433 2 0 0 := by decide +kernel
theorem i372_1433 : zi 372 1433 1434 1 4 0 := by decide +kernel
theorem i372_1434 : zi 372 1434 1435 0 0 2 := by decide +kernel
theorem i372_1435 : zi 372 1435 1436 13 0 0 := by decide +kernel
theorem i372_1436 : zi 372 1436 1437 8 0 0 := by decide +kernel
theorem i372_1437 : zi 372 1437 1438 2 3 0 := by decide +kernel
theorem i372_1438 : zi 372 1438 1439 35 351 0 := by decide +kernel
theorem na_351 : z_na 351 = 4 := by decide +kernel
theorem i372_1439 : zi 372 1439 1440 3 5 0 := by decide +kernel
theorem i372_1440 : zi 372 1440 1441 2 2 0 := by decide +kernel
theorem i372_1441 : zi 372 1441 1442 2 0 0 := by decide +kernel
theorem i372_1442 : zi 372 1442 1443 1 4 0 := by decide +kernel
theorem i372_1443 : zi 372 1443 1444 0 0 1 := by decide +kernel
theorem i372_1444 : zi 372 1444 1445 13 0 0 := by decide +kernel
theorem i372_1445 : zi 372 1445 1446 8 0 0 := by decide +kernel
theorem i372_1446 : zi 372 1446 1447 2 0 0 := by decide +kernel
theorem i372_1447 : zi 372 1447 1448 1 4 0 := by decide +kernel
theorem i372_1448 : zi 372 1448 1449 0 0 2 := by decide +kernel
theorem i372_1449 : zi 372 1449 1450 13 0 0 := by decide +kernel
theorem i372_1450 : zi 372 1450 1451 8 0 0 := by decide +kernel
theorem i372_1451 : zi 372 1451 1452 21 272 12 := by decide +kernel
theorem na_272 : z_na 272 = 2 := by decide +kernel
theorem i372_1452 : zi 372 1452 1453 3 6 0 := by decide +kernel
theorem i372_1453 : zi 372 1453 1454 2 2 0 := by decide +kernel
theorem i372_1454 : zi 372 1454 1455 21 211 12 := by decide +kernel
theorem i372_1455 : zi 372 1455 1456 1 5 0 := by decide +kernel
theorem i372_1456 : zi 372 1456 1457 19 1459 0 := by decide +kernel
theorem i372_1459 : zi 372 1459 1460 1 5 0 := by decide +kernel
theorem i372_1460 : zi 372 1460 1461 18 1470 1 := by decide +kernel
theorem i372_1461 : zi 372 1461 1462 2 3 0 := by decide +kernel
theorem i372_1462 : zi 372 1462 1463 0 0 0 := by decide +kernel
theorem i372_1463 : zi 372 1463 1464 37 0 0 := by decide +kernel
theorem i372_1464 : zi 372 1464 1465 1 6 0 := by decide +kernel
theorem i372_1465 : zi 372 1465 1466 30 0 0 := by decide +kernel
theorem i372_1466 : zi 372 1466 1467 38 0 0 := by decide +kernel
theorem i372_1467 : zi 372 1467 1468 18 1470 0 := by decide +kernel
theorem i372_1470 : zi 372 1470 1471 17 2420 0 := by decide +kernel
theorem i372_1468 : zi 372 1468 1469 0 0 0 := by decide +kernel
theorem i372_1469 : zi 372 1469 1470 26 0 0 := by decide +kernel
theorem i372_1457 : zi 372 1457 1458 0 0 0 := by decide +kernel
theorem i372_1458 : zi 372 1458 1459 26 0 0 := by decide +kernel
theorem i372_1471 : zi 372 1471 1472 2 1 0 := by decide +kernel
theorem i372_1472 : zi 372 1472 1473 2 0 0 := by decide +kernel
theorem i372_1473 : zi 372 1473 1474 1 4 0 := by decide +kernel
theorem i372_1474 : zi 372 1474 1475 0 0 1 := by decide +kernel
theorem i372_1475 : zi 372 1475 1476 13 0 0 := by decide +kernel
theorem i372_1476 : zi 372 1476 1477 8 0 0 := by decide +kernel
theorem i372_1477 : zi 372 1477 1478 2 0 0 := by decide +kernel
theorem i372_1478 : zi 372 1478 1479 1 4 0 := by decide +kernel
theorem i372_1479 : zi 372 1479 1480 0 0 2 := by decide +kernel
theorem i372_1480 : zi 372 1480 1481 13 0 0 := by decide +kernel
theorem i372_1481 : zi 372 1481 1482 8 0 0 := by decide +kernel
theorem i372_1482 : zi 372 1482 1483 2 0 0 := by decide +kernel
theorem i372_1483 : zi 372 1483 1484 1 4 0 := by decide +kernel
theorem i372_1484 : zi 372 1484 1485 0 0 3 := by decide +kernel
theorem i372_1485 : zi 372 1485 1486 13 0 0 := by decide +kernel
theorem i372_1486 : zi 372 1486 1487 8 0 0 := by decide +kernel
theorem i372_1487 : zi 372 1487 1488 2 0 0 := by decide +kernel
theorem i372_1488 : zi 372 1488 1489 1 4 0 := by decide +kernel
theorem i372_1489 : zi 372 1489 1490 0 0 4 := by decide +kernel
theorem i372_1490 : zi 372 1490 1491 13 0 0 := by decide +kernel
theorem i372_1491 : zi 372 1491 1492 8 0 0 := by decide +kernel
theorem i372_1492 : zi 372 1492 1493 2 0 0 := by decide +kernel
theorem i372_1493 : zi 372 1493 1494 1 4 0 := by decide +kernel
theorem i372_1494 : zi 372 1494 1495 0 0 5 := by decide +kernel
theorem i372_1495 : zi 372 1495 1496 13 0 0 := by decide +kernel
theorem i372_1496 : zi 372 1496 1497 8 0 0 := by decide +kernel
theorem i372_1497 : zi 372 1497 1498 2 3 0 := by decide +kernel
theorem i372_1498 : zi 372 1498 1499 35 352 0 := by decide +kernel
theorem na_352 : z_na 352 = 7 := by decide +kernel
theorem i372_1499 : zi 372 1499 1500 3 5 0 := by decide +kernel
theorem i372_1500 : zi 372 1500 1501 2 2 0 := by decide +kernel
theorem i372_1501 : zi 372 1501 1502 2 0 0 := by decide +kernel
theorem i372_1502 : zi 372 1502 1503 1 4 0 := by decide +kernel
theorem i372_1503 : zi 372 1503 1504 0 0 1 := by decide +kernel
theorem i372_1504 : zi 372 1504 1505 13 0 0 := by decide +kernel
theorem i372_1505 : zi 372 1505 1506 8 0 0 := by decide +kernel
theorem i372_1506 : zi 372 1506 1507 2 0 0 := by decide +kernel
theorem i372_1507 : zi 372 1507 1508 1 4 0 := by decide +kernel
theorem i372_1508 : zi 372 1508 1509 0 0 2 := by decide +kernel
theorem i372_1509 : zi 372 1509 1510 13 0 0 := by decide +kernel
theorem i372_1510 : zi 372 1510 1511 8 0 0 := by decide +kernel
theorem i372_1511 : zi 372 1511 1512 2 0 0 := by decide +kernel
theorem i372_1512 : zi 372 1512 1513 1 4 0 := by decide +kernel
theorem i372_1513 : zi 372 1513 1514 0 0 3 := by decide +kernel
theorem i372_1514 : zi 372 1514 1515 13 0 0 := by decide +kernel
theorem i372_1515 : zi 372 1515 1516 8 0 0 := by decide +kernel
theorem i372_1516 : zi 372 1516 1517 2 0 0 := by decide +kernel
theorem i372_1517 : zi 372 1517 1518 1 4 0 := by decide +kernel
theorem i372_1518 : zi 372 1518 1519 0 0 4 := by decide +kernel
theorem i372_1519 : zi 372 1519 1520 13 0 0 := by decide +kernel
theorem i372_1520 : zi 372 1520 1521 8 0 0 := by decide +kernel
theorem i372_1521 : zi 372 1521 1522 2 0 0 := by decide +kernel
theorem i372_1522 : zi 372 1522 1523 1 4 0 := by decide +kernel
theorem i372_1523 : zi 372 1523 1524 0 0 5 := by decide +kernel
theorem i372_1524 : zi 372 1524 1525 13 0 0 := by decide +kernel
theorem i372_1525 : zi 372 1525 1526 8 0 0 := by decide +kernel
theorem i372_1526 : zi 372 1526 1527 21 297 12 := by decide +kernel
theorem na_297 : z_na 297 = 5 := by decide +kernel
theorem i372_1527 : zi 372 1527 1528 3 6 0 := by decide +kernel
theorem i372_1528 : zi 372 1528 1529 2 2 0 := by decide +kernel
theorem i372_1529 : zi 372 1529 1530 21 211 12 := by decide +kernel
theorem i372_1530 : zi 372 1530 1531 1 5 0 := by decide +kernel
theorem i372_1531 : zi 372 1531 1532 19 1534 0 := by decide +kernel
theorem i372_1534 : zi 372 1534 1535 1 5 0 := by decide +kernel
theorem i372_1535 : zi 372 1535 1536 18 1545 1 := by decide +kernel
theorem i372_1536 : zi 372 1536 1537 2 3 0 := by decide +kernel
theorem i372_1537 : zi 372 1537 1538 0 0 0 := by decide +kernel
theorem i372_1538 : zi 372 1538 1539 37 0 0 := by decide +kernel
theorem i372_1539 : zi 372 1539 1540 1 6 0 := by decide +kernel
theorem i372_1540 : zi 372 1540 1541 30 0 0 := by decide +kernel
theorem i372_1541 : zi 372 1541 1542 38 0 0 := by decide +kernel
theorem i372_1542 : zi 372 1542 1543 18 1545 0 := by decide +kernel
theorem i372_1545 : zi 372 1545 1546 17 2420 0 := by decide +kernel
theorem i372_1543 : zi 372 1543 1544 0 0 0 := by decide +kernel
theorem i372_1544 : zi 372 1544 1545 26 0 0 := by decide +kernel
theorem i372_1532 : zi 372 1532 1533 0 0 0 := by decide +kernel
theorem i372_1533 : zi 372 1533 1534 26 0 0 := by decide +kernel
theorem i372_1546 : zi 372 1546 1547 2 1 0 := by decide +kernel
theorem i372_1547 : zi 372 1547 1548 2 0 0 := by decide +kernel
theorem i372_1548 : zi 372 1548 1549 1 4 0 := by decide +kernel
theorem i372_1549 : zi 372 1549 1550 0 0 1 := by decide +kernel
theorem i372_1550 : zi 372 1550 1551 13 0 0 := by decide +kernel
theorem i372_1551 : zi 372 1551 1552 8 0 0 := by decide +kernel
theorem i372_1552 : zi 372 1552 1553 2 0 0 := by decide +kernel
theorem i372_1553 : zi 372 1553 1554 1 4 0 := by decide +kernel
theorem i372_1554 : zi 372 1554 1555 0 0 2 := by decide +kernel
theorem i372_1555 : zi 372 1555 1556 13 0 0 := by decide +kernel
theorem i372_1556 : zi 372 1556 1557 8 0 0 := by decide +kernel
theorem i372_1557 : zi 372 1557 1558 2 3 0 := by decide +kernel
theorem i372_1558 : zi 372 1558 1559 35 353 0 := by decide +kernel
theorem na_353 : z_na 353 = 4 := by decide +kernel
theorem i372_1559 : zi 372 1559 1560 3 5 0 := by decide +kernel
theorem i372_1560 : zi 372 1560 1561 2 2 0 := by decide +kernel
theorem i372_1561 : zi 372 1561 1562 2 0 0 := by decide +kernel
theorem i372_1562 : zi 372 1562 1563 1 4 0 := by decide +kernel
theorem i372_1563 : zi 372 1563 1564 0 0 1 := by decide +kernel
theorem i372_1564 : zi 372 1564 1565 13 0 0 := by decide +kernel
theorem i372_1565 : zi 372 1565 1566 8 0 0 := by decide +kernel
theorem i372_1566 : zi 372 1566 1567 2 0 0 := by decide +kernel
theorem i372_1567 : zi 372 1567 1568 1 4 0 := by decide +kernel
theorem i372_1568 : zi 372 1568 1569 0 0 2 := by decide +kernel
theorem i372_1569 : zi 372 1569 1570 13 0 0 := by decide +kernel
theorem i372_1570 : zi 372 1570 1571 8 0 0 := by decide +kernel
theorem i372_1571 : zi 372 1571 1572 21 274 12 := by decide +kernel
theorem na_274 : z_na 274 = 2 := by decide +kernel
theorem i372_1572 : zi 372 1572 1573 3 6 0 := by decide +kernel
theorem i372_1573 : zi 372 1573 1574 2 2 0 := by decide +kernel
theorem i372_1574 : zi 372 1574 1575 21 211 12 := by decide +kernel
theorem i372_1575 : zi 372 1575 1576 1 5 0 := by decide +kernel
theorem i372_1576 : zi 372 1576 1577 19 1579 0 := by decide +kernel
theorem i372_1579 : zi 372 1579 1580 1 5 0 := by decide +kernel
theorem i372_1580 : zi 372 1580 1581 18 1590 1 := by decide +kernel
theorem i372_1581 : zi 372 1581 1582 2 3 0 := by decide +kernel
theorem i372_1582 : zi 372 1582 1583 0 0 0 := by decide +kernel
theorem i372_1583 : zi 372 1583 1584 37 0 0 := by decide +kernel
theorem i372_1584 : zi 372 1584 1585 1 6 0 := by decide +kernel
theorem i372_1585 : zi 372 1585 1586 30 0 0 := by decide +kernel
theorem i372_1586 : zi 372 1586 1587 38 0 0 := by decide +kernel
theorem i372_1587 : zi 372 1587 1588 18 1590 0 := by decide +kernel
theorem i372_1590 : zi 372 1590 1591 17 2420 0 := by decide +kernel
theorem i372_1588 : zi 372 1588 1589 0 0 0 := by decide +kernel
theorem i372_1589 : zi 372 1589 1590 26 0 0 := by decide +kernel
theorem i372_1577 : zi 372 1577 1578 0 0 0 := by decide +kernel
theorem i372_1578 : zi 372 1578 1579 26 0 0 := by decide +kernel
theorem i372_1591 : zi 372 1591 1592 2 1 0 := by decide +kernel
theorem i372_1592 : zi 372 1592 1593 2 0 0 := by decide +kernel
theorem i372_1593 : zi 372 1593 1594 1 4 0 := by decide +kernel
theorem i372_1594 : zi 372 1594 1595 0 0 1 := by decide +kernel
theorem i372_1595 : zi 372 1595 1596 13 0 0 := by decide +kernel
theorem i372_1596 : zi 372 1596 1597 8 0 0 := by decide +kernel
theorem i372_1597 : zi 372 1597 1598 2 0 0 := by decide +kernel
theorem i372_1598 : zi 372 1598 1599 1 4 0 := by decide +kernel
theorem i372_1599 : zi 372 1599 1600 0 0 2 := by decide +kernel
theorem i372_1600 : zi 372 1600 1601 13 0 0 := by decide +kernel
theorem i372_1601 : zi 372 1601 1602 8 0 0 := by decide +kernel
theorem i372_1602 : zi 372 1602 1603 2 3 0 := by decide +kernel
theorem i372_1603 : zi 372 1603 1604 35 354 0 := by decide +kernel
theorem na_354 : z_na 354 = 4 := by decide +kernel
theorem i372_1604 : zi 372 1604 1605 3 5 0 := by decide +kernel
theorem i372_1605 : zi 372 1605 1606 2 2 0 := by decide +kernel
theorem i372_1606 : zi 372 1606 1607 2 0 0 := by decide +kernel
theorem i372_1607 : zi 372 1607 1608 1 4 0 := by decide +kernel
theorem i372_1608 : zi 372 1608 1609 0 0 1 := by decide +kernel
theorem i372_1609 : zi 372 1609 1610 13 0 0 := by decide +kernel
theorem i372_1610 : zi 372 1610 1611 8 0 0 := by decide +kernel
theorem i372_1611 : zi 372 1611 1612 2 0 0 := by decide +kernel
theorem i372_1612 : zi 372 1612 1613 1 4 0 := by decide +kernel
theorem i372_1613 : zi 372 1613 1614 0 0 2 := by decide +kernel
theorem i372_1614 : zi 372 1614 1615 13 0 0 := by decide +kernel
theorem i372_1615 : zi 372 1615 1616 8 0 0 := by decide +kernel
theorem i372_1616 : zi 372 1616 1617 21 276 12 := by decide +kernel
theorem na_276 : z_na 276 = 2 := by decide +kernel
theorem i372_1617 : zi 372 1617 1618 3 6 0 := by decide +kernel
theorem i372_1618 : zi 372 1618 1619 2 2 0 := by decide +kernel
theorem i372_1619 : zi 372 1619 1620 21 211 12 := by decide +kernel
theorem i372_1620 : zi 372 1620 1621 1 5 0 := by decide +kernel
theorem i372_1621 : zi 372 1621 1622 19 1624 0 := by decide +kernel
theorem i372_1624 : zi 372 1624 1625 1 5 0 := by decide +kernel
theorem i372_1625 : zi 372 1625 1626 18 1635 1 := by decide +kernel
theorem i372_1626 : zi 372 1626 1627 2 3 0 := by decide +kernel
theorem i372_1627 : zi 372 1627 1628 0 0 0 := by decide +kernel
theorem i372_1628 : zi 372 1628 1629 37 0 0 := by decide +kernel
theorem i372_1629 : zi 372 1629 1630 1 6 0 := by decide +kernel
theorem i372_1630 : zi 372 1630 1631 30 0 0 := by decide +kernel
theorem i372_1631 : zi 372 1631 1632 38 0 0 := by decide +kernel
theorem i372_1632 : zi 372 1632 1633 18 1635 0 := by decide +kernel
theorem i372_1635 : zi 372 1635 1636 17 2420 0 := by decide +kernel
theorem i372_1633 : zi 372 1633 1634 0 0 0 := by decide +kernel
theorem i372_1634 : zi 372 1634 1635 26 0 0 := by decide +kernel
theorem i372_1622 : zi 372 1622 1623 0 0 0 := by decide +kernel
theorem i372_1623 : zi 372 1623 1624 26 0 0 := by decide +kernel
theorem i372_1636 : zi 372 1636 1637 2 1 0 := by decide +kernel
theorem i372_1637 : zi 372 1637 1638 2 0 0 := by decide +kernel
theorem i372_1638 : zi 372 1638 1639 1 4 0 := by decide +kernel
theorem i372_1639 : zi 372 1639 1640 0 0 1 := by decide +kernel
theorem i372_1640 : zi 372 1640 1641 13 0 0 := by decide +kernel
theorem i372_1641 : zi 372 1641 1642 8 0 0 := by decide +kernel
theorem i372_1642 : zi 372 1642 1643 2 3 0 := by decide +kernel
theorem i372_1643 : zi 372 1643 1644 35 355 0 := by decide +kernel
theorem na_355 : z_na 355 = 3 := by decide +kernel
theorem i372_1644 : zi 372 1644 1645 3 5 0 := by decide +kernel
theorem i372_1645 : zi 372 1645 1646 2 2 0 := by decide +kernel
theorem i372_1646 : zi 372 1646 1647 2 0 0 := by decide +kernel
theorem i372_1647 : zi 372 1647 1648 1 4 0 := by decide +kernel
theorem i372_1648 : zi 372 1648 1649 0 0 1 := by decide +kernel
theorem i372_1649 : zi 372 1649 1650 13 0 0 := by decide +kernel
theorem i372_1650 : zi 372 1650 1651 8 0 0 := by decide +kernel
theorem i372_1651 : zi 372 1651 1652 21 277 12 := by decide +kernel
theorem na_277 : z_na 277 = 1 := by decide +kernel
theorem i372_1652 : zi 372 1652 1653 3 6 0 := by decide +kernel
theorem i372_1653 : zi 372 1653 1654 2 2 0 := by decide +kernel
theorem i372_1654 : zi 372 1654 1655 21 211 12 := by decide +kernel
theorem i372_1655 : zi 372 1655 1656 1 5 0 := by decide +kernel
theorem i372_1656 : zi 372 1656 1657 19 1659 0 := by decide +kernel
theorem i372_1659 : zi 372 1659 1660 1 5 0 := by decide +kernel
theorem i372_1660 : zi 372 1660 1661 18 1670 1 := by decide +kernel
theorem i372_1661 : zi 372 1661 1662 2 3 0 := by decide +kernel
theorem i372_1662 : zi 372 1662 1663 0 0 0 := by decide +kernel
theorem i372_1663 : zi 372 1663 1664 37 0 0 := by decide +kernel
theorem i372_1664 : zi 372 1664 1665 1 6 0 := by decide +kernel
theorem i372_1665 : zi 372 1665 1666 30 0 0 := by decide +kernel
theorem i372_1666 : zi 372 1666 1667 38 0 0 := by decide +kernel
theorem i372_1667 : zi 372 1667 1668 18 1670 0 := by decide +kernel
theorem i372_1670 : zi 372 1670 1671 17 2420 0 := by decide +kernel
theorem i372_1668 : zi 372 1668 1669 0 0 0 := by decide +kernel
theorem i372_1669 : zi 372 1669 1670 26 0 0 := by decide +kernel
theorem i372_1657 : zi 372 1657 1658 0 0 0 := by decide +kernel
theorem i372_1658 : zi 372 1658 1659 26 0 0 := by decide +kernel
theorem i372_1671 : zi 372 1671 1672 2 1 0 := by decide +kernel
theorem i372_1672 : zi 372 1672 1673 2 0 0 := by decide +kernel
theorem i372_1673 : zi 372 1673 1674 1 4 0 := by decide +kernel
theorem i372_1674 : zi 372 1674 1675 0 0 1 := by decide +kernel
theorem i372_1675 : zi 372 1675 1676 13 0 0 := by decide +kernel
theorem i372_1676 : zi 372 1676 1677 8 0 0 := by decide +kernel
theorem i372_1677 : zi 372 1677 1678 2 3 0 := by decide +kernel
theorem i372_1678 : zi 372 1678 1679 35 356 0 := by decide +kernel
theorem na_356 : z_na 356 = 3 := by decide +kernel
theorem i372_1679 : zi 372 1679 1680 3 5 0 := by decide +kernel
theorem i372_1680 : zi 372 1680 1681 2 2 0 := by decide +kernel
theorem i372_1681 : zi 372 1681 1682 2 0 0 := by decide +kernel
theorem i372_1682 : zi 372 1682 1683 1 4 0 := by decide +kernel
theorem i372_1683 : zi 372 1683 1684 0 0 1 := by decide +kernel
theorem i372_1684 : zi 372 1684 1685 13 0 0 := by decide +kernel
theorem i372_1685 : zi 372 1685 1686 8 0 0 := by decide +kernel
theorem i372_1686 : zi 372 1686 1687 21 278 12 := by decide +kernel
theorem na_278 : z_na 278 = 1 := by decide +kernel
theorem i372_1687 : zi 372 1687 1688 3 6 0 := by decide +kernel
theorem i372_1688 : zi 372 1688 1689 2 2 0 := by decide +kernel
theorem i372_1689 : zi 372 1689 1690 21 211 12 := by decide +kernel
theorem i372_1690 : zi 372 1690 1691 1 5 0 := by decide +kernel
theorem i372_1691 : zi 372 1691 1692 19 1694 0 := by decide +kernel
theorem i372_1694 : zi 372 1694 1695 1 5 0 := by decide +kernel
theorem i372_1695 : zi 372 1695 1696 18 1705 1 := by decide +kernel
theorem i372_1696 : zi 372 1696 1697 2 3 0 := by decide +kernel
theorem i372_1697 : zi 372 1697 1698 0 0 0 := by decide +kernel
theorem i372_1698 : zi 372 1698 1699 37 0 0 := by decide +kernel
theorem i372_1699 : zi 372 1699 1700 1 6 0 := by decide +kernel
theorem i372_1700 : zi 372 1700 1701 30 0 0 := by decide +kernel
theorem i372_1701 : zi 372 1701 1702 38 0 0 := by decide +kernel
theorem i372_1702 : zi 372 1702 1703 18 1705 0 := by decide +kernel
theorem i372_1705 : zi 372 1705 1706 17 2420 0 := by decide +kernel
theorem i372_1703 : zi 372 1703 1704 0 0 0 := by decide +kernel
theorem i372_1704 : zi 372 1704 1705 26 0 0 := by decide +kernel
theorem i372_1692 : zi 372 1692 1693 0 0 0 := by decide +kernel
theorem i372_1693 : zi 372 1693 1694 26 0 0 := by decide +kernel
theorem i372_1706 : zi 372 1706 1707 2 1 0 := by decide +kernel
theorem i372_1707 : zi 372 1707 1708 2 0 0 := by decide +kernel
theorem i372_1708 : zi 372 1708 1709 1 4 0 := by decide +kernel
theorem i372_1709 : zi 372 1709 1710 0 0 1 := by decide +kernel
theorem i372_1710 : zi 372 1710 1711 13 0 0 := by decide +kernel
theorem i372_1711 : zi 372 1711 1712 8 0 0 := by decide +kernel
theorem i372_1712 : zi 372 1712 1713 2 3 0 := by decide +kernel
theorem i372_1713 : zi 372 1713 1714 35 357 0 := by decide +kernel
theorem na_357 : z_na 357 = 3 := by decide +kernel
theorem i372_1714 : zi 372 1714 1715 3 5 0 := by decide +kernel
theorem i372_1715 : zi 372 1715 1716 2 2 0 := by decide +kernel
theorem i372_1716 : zi 372 1716 1717 2 0 0 := by decide +kernel
theorem i372_1717 : zi 372 1717 1718 1 4 0 := by decide +kernel
theorem i372_1718 : zi 372 1718 1719 0 0 1 := by decide +kernel
theorem i372_1719 : zi 372 1719 1720 13 0 0 := by decide +kernel
theorem i372_1720 : zi 372 1720 1721 8 0 0 := by decide +kernel
theorem i372_1721 : zi 372 1721 1722 21 280 12 := by decide +kernel
theorem na_280 : z_na 280 = 1 := by decide +kernel
theorem i372_1722 : zi 372 1722 1723 3 6 0 := by decide +kernel
theorem i372_1723 : zi 372 1723 1724 2 2 0 := by decide +kernel
theorem i372_1724 : zi 372 1724 1725 21 211 12 := by decide +kernel
theorem i372_1725 : zi 372 1725 1726 1 5 0 := by decide +kernel
theorem i372_1726 : zi 372 1726 1727 19 1729 0 := by decide +kernel
theorem i372_1729 : zi 372 1729 1730 1 5 0 := by decide +kernel
theorem i372_1730 : zi 372 1730 1731 18 1740 1 := by decide +kernel
theorem i372_1731 : zi 372 1731 1732 2 3 0 := by decide +kernel
theorem i372_1732 : zi 372 1732 1733 0 0 0 := by decide +kernel
theorem i372_1733 : zi 372 1733 1734 37 0 0 := by decide +kernel
theorem i372_1734 : zi 372 1734 1735 1 6 0 := by decide +kernel
theorem i372_1735 : zi 372 1735 1736 30 0 0 := by decide +kernel
theorem i372_1736 : zi 372 1736 1737 38 0 0 := by decide +kernel
theorem i372_1737 : zi 372 1737 1738 18 1740 0 := by decide +kernel
theorem i372_1740 : zi 372 1740 1741 17 2420 0 := by decide +kernel
theorem i372_1738 : zi 372 1738 1739 0 0 0 := by decide +kernel
theorem i372_1739 : zi 372 1739 1740 26 0 0 := by decide +kernel
theorem i372_1727 : zi 372 1727 1728 0 0 0 := by decide +kernel
theorem i372_1728 : zi 372 1728 1729 26 0 0 := by decide +kernel
theorem i372_1741 : zi 372 1741 1742 2 1 0 := by decide +kernel
theorem i372_1742 : zi 372 1742 1743 2 0 0 := by decide +kernel
theorem i372_1743 : zi 372 1743 1744 1 4 0 := by decide +kernel
theorem i372_1744 : zi 372 1744 1745 0 0 1 := by decide +kernel
theorem i372_1745 : zi 372 1745 1746 13 0 0 := by decide +kernel
theorem i372_1746 : zi 372 1746 1747 8 0 0 := by decide +kernel
theorem i372_1747 : zi 372 1747 1748 2 3 0 := by decide +kernel
theorem i372_1748 : zi 372 1748 1749 35 358 0 := by decide +kernel
theorem na_358 : z_na 358 = 3 := by decide +kernel
theorem i372_1749 : zi 372 1749 1750 3 5 0 := by decide +kernel
theorem i372_1750 : zi 372 1750 1751 2 2 0 := by decide +kernel
theorem i372_1751 : zi 372 1751 1752 2 0 0 := by decide +kernel
theorem i372_1752 : zi 372 1752 1753 1 4 0 := by decide +kernel
theorem i372_1753 : zi 372 1753 1754 0 0 1 := by decide +kernel
theorem i372_1754 : zi 372 1754 1755 13 0 0 := by decide +kernel
theorem i372_1755 : zi 372 1755 1756 8 0 0 := by decide +kernel
theorem i372_1756 : zi 372 1756 1757 21 281 12 := by decide +kernel
theorem na_281 : z_na 281 = 1 := by decide +kernel
theorem i372_1757 : zi 372 1757 1758 3 6 0 := by decide +kernel
theorem i372_1758 : zi 372 1758 1759 2 2 0 := by decide +kernel
theorem i372_1759 : zi 372 1759 1760 21 211 12 := by decide +kernel
theorem i372_1760 : zi 372 1760 1761 1 5 0 := by decide +kernel
theorem i372_1761 : zi 372 1761 1762 19 1764 0 := by decide +kernel
theorem i372_1764 : zi 372 1764 1765 1 5 0 := by decide +kernel
theorem i372_1765 : zi 372 1765 1766 18 1775 1 := by decide +kernel
theorem i372_1766 : zi 372 1766 1767 2 3 0 := by decide +kernel
theorem i372_1767 : zi 372 1767 1768 0 0 0 := by decide +kernel
theorem i372_1768 : zi 372 1768 1769 37 0 0 := by decide +kernel
theorem i372_1769 : zi 372 1769 1770 1 6 0 := by decide +kernel
theorem i372_1770 : zi 372 1770 1771 30 0 0 := by decide +kernel
theorem i372_1771 : zi 372 1771 1772 38 0 0 := by decide +kernel
theorem i372_1772 : zi 372 1772 1773 18 1775 0 := by decide +kernel
theorem i372_1775 : zi 372 1775 1776 17 2420 0 := by decide +kernel
theorem i372_1773 : zi 372 1773 1774 0 0 0 := by decide +kernel
theorem i372_1774 : zi 372 1774 1775 26 0 0 := by decide +kernel
theorem i372_1762 : zi 372 1762 1763 0 0 0 := by decide +kernel
theorem i372_1763 : zi 372 1763 1764 26 0 0 := by decide +kernel
theorem i372_1776 : zi 372 1776 1777 2 1 0 := by decide +kernel
theorem i372_1777 : zi 372 1777 1778 2 0 0 := by decide +kernel
theorem i372_1778 : zi 372 1778 1779 1 4 0 := by decide +kernel
theorem i372_1779 : zi 372 1779 1780 0 0 1 := by decide +kernel
theorem i372_1780 : zi 372 1780 1781 13 0 0 := by decide +kernel
theorem i372_1781 : zi 372 1781 1782 8 0 0 := by decide +kernel
theorem i372_1782 : zi 372 1782 1783 2 0 0 := by decide +kernel
theorem i372_1783 : zi 372 1783 1784 1 4 0 := by decide +kernel
theorem i372_1784 : zi 372 1784 1785 0 0 2 := by decide +kernel
theorem i372_1785 : zi 372 1785 1786 13 0 0 := by decide +kernel
theorem i372_1786 : zi 372 1786 1787 8 0 0 := by decide +kernel
theorem i372_1787 : zi 372 1787 1788 2 0 0 := by decide +kernel
theorem i372_1788 : zi 372 1788 1789 1 4 0 := by decide +kernel
theorem i372_1789 : zi 372 1789 1790 0 0 3 := by decide +kernel
theorem i372_1790 : zi 372 1790 1791 13 0 0 := by decide +kernel
theorem i372_1791 : zi 372 1791 1792 8 0 0 := by decide +kernel
theorem i372_1792 : zi 372 1792 1793 2 0 0 := by decide +kernel
theorem i372_1793 : zi 372 1793 1794 1 4 0 := by decide +kernel
theorem i372_1794 : zi 372 1794 1795 0 0 4 := by decide +kernel
theorem i372_1795 : zi 372 1795 1796 13 0 0 := by decide +kernel
theorem i372_1796 : zi 372 1796 1797 8 0 0 := by decide +kernel
theorem i372_1797 : zi 372 1797 1798 2 3 0 := by decide +kernel
theorem i372_1798 : zi 372 1798 1799 35 359 0 := by decide +kernel
theorem na_359 : z_na 359 = 6 := by decide +kernel
theorem i372_1799 : zi 372 1799 1800 3 5 0 := by decide +kernel
theorem i372_1800 : zi 372 1800 1801 2 2 0 := by decide +kernel
theorem i372_1801 : zi 372 1801 1802 2 0 0 := by decide +kernel
theorem i372_1802 : zi 372 1802 1803 1 4 0 := by decide +kernel
theorem i372_1803 : zi 372 1803 1804 0 0 1 := by decide +kernel
theorem i372_1804 : zi 372 1804 1805 13 0 0 := by decide +kernel
theorem i372_1805 : zi 372 1805 1806 8 0 0 := by decide +kernel
theorem i372_1806 : zi 372 1806 1807 2 0 0 := by decide +kernel
theorem i372_1807 : zi 372 1807 1808 1 4 0 := by decide +kernel
theorem i372_1808 : zi 372 1808 1809 0 0 2 := by decide +kernel
theorem i372_1809 : zi 372 1809 1810 13 0 0 := by decide +kernel
theorem i372_1810 : zi 372 1810 1811 8 0 0 := by decide +kernel
theorem i372_1811 : zi 372 1811 1812 2 0 0 := by decide +kernel
theorem i372_1812 : zi 372 1812 1813 1 4 0 := by decide +kernel
theorem i372_1813 : zi 372 1813 1814 0 0 3 := by decide +kernel
theorem i372_1814 : zi 372 1814 1815 13 0 0 := by decide +kernel
theorem i372_1815 : zi 372 1815 1816 8 0 0 := by decide +kernel
theorem i372_1816 : zi 372 1816 1817 2 0 0 := by decide +kernel
theorem i372_1817 : zi 372 1817 1818 1 4 0 := by decide +kernel
theorem i372_1818 : zi 372 1818 1819 0 0 4 := by decide +kernel
theorem i372_1819 : zi 372 1819 1820 13 0 0 := by decide +kernel
theorem i372_1820 : zi 372 1820 1821 8 0 0 := by decide +kernel
theorem i372_1821 : zi 372 1821 1822 21 298 12 := by decide +kernel
theorem na_298 : z_na 298 = 4 := by decide +kernel
theorem i372_1822 : zi 372 1822 1823 3 6 0 := by decide +kernel
theorem i372_1823 : zi 372 1823 1824 2 2 0 := by decide +kernel
theorem i372_1824 : zi 372 1824 1825 21 211 12 := by decide +kernel
theorem i372_1825 : zi 372 1825 1826 1 5 0 := by decide +kernel
theorem i372_1826 : zi 372 1826 1827 19 1829 0 := by decide +kernel
theorem i372_1829 : zi 372 1829 1830 1 5 0 := by decide +kernel
theorem i372_1830 : zi 372 1830 1831 18 1840 1 := by decide +kernel
theorem i372_1831 : zi 372 1831 1832 2 3 0 := by decide +kernel
theorem i372_1832 : zi 372 1832 1833 0 0 0 := by decide +kernel
theorem i372_1833 : zi 372 1833 1834 37 0 0 := by decide +kernel
theorem i372_1834 : zi 372 1834 1835 1 6 0 := by decide +kernel
theorem i372_1835 : zi 372 1835 1836 30 0 0 := by decide +kernel
theorem i372_1836 : zi 372 1836 1837 38 0 0 := by decide +kernel
theorem i372_1837 : zi 372 1837 1838 18 1840 0 := by decide +kernel
theorem i372_1840 : zi 372 1840 1841 17 2420 0 := by decide +kernel
theorem i372_1838 : zi 372 1838 1839 0 0 0 := by decide +kernel
theorem i372_1839 : zi 372 1839 1840 26 0 0 := by decide +kernel
theorem i372_1827 : zi 372 1827 1828 0 0 0 := by decide +kernel
theorem i372_1828 : zi 372 1828 1829 26 0 0 := by decide +kernel
theorem i372_1841 : zi 372 1841 1842 2 1 0 := by decide +kernel
theorem i372_1842 : zi 372 1842 1843 2 0 0 := by decide +kernel
theorem i372_1843 : zi 372 1843 1844 1 4 0 := by decide +kernel
theorem i372_1844 : zi 372 1844 1845 0 0 1 := by decide +kernel
theorem i372_1845 : zi 372 1845 1846 13 0 0 := by decide +kernel
theorem i372_1846 : zi 372 1846 1847 8 0 0 := by decide +kernel
theorem i372_1847 : zi 372 1847 1848 2 3 0 := by decide +kernel
theorem i372_1848 : zi 372 1848 1849 35 360 0 := by decide +kernel
theorem na_360 : z_na 360 = 3 := by decide +kernel
theorem i372_1849 : zi 372 1849 1850 3 5 0 := by decide +kernel
theorem i372_1850 : zi 372 1850 1851 2 2 0 := by decide +kernel
theorem i372_1851 : zi 372 1851 1852 2 0 0 := by decide +kernel
theorem i372_1852 : zi 372 1852 1853 1 4 0 := by decide +kernel
theorem i372_1853 : zi 372 1853 1854 0 0 1 := by decide +kernel
theorem i372_1854 : zi 372 1854 1855 13 0 0 := by decide +kernel
theorem i372_1855 : zi 372 1855 1856 8 0 0 := by decide +kernel
theorem i372_1856 : zi 372 1856 1857 21 299 12 := by decide +kernel
theorem na_299 : z_na 299 = 1 := by decide +kernel
theorem i372_1857 : zi 372 1857 1858 3 6 0 := by decide +kernel
theorem i372_1858 : zi 372 1858 1859 2 2 0 := by decide +kernel
theorem i372_1859 : zi 372 1859 1860 21 211 12 := by decide +kernel
theorem i372_1860 : zi 372 1860 1861 1 5 0 := by decide +kernel
theorem i372_1861 : zi 372 1861 1862 19 1864 0 := by decide +kernel
theorem i372_1864 : zi 372 1864 1865 1 5 0 := by decide +kernel
theorem i372_1865 : zi 372 1865 1866 18 1875 1 := by decide +kernel
theorem i372_1866 : zi 372 1866 1867 2 3 0 := by decide +kernel
theorem i372_1867 : zi 372 1867 1868 0 0 0 := by decide +kernel
theorem i372_1868 : zi 372 1868 1869 37 0 0 := by decide +kernel
theorem i372_1869 : zi 372 1869 1870 1 6 0 := by decide +kernel
theorem i372_1870 : zi 372 1870 1871 30 0 0 := by decide +kernel
theorem i372_1871 : zi 372 1871 1872 38 0 0 := by decide +kernel
theorem i372_1872 : zi 372 1872 1873 18 1875 0 := by decide +kernel
theorem i372_1875 : zi 372 1875 1876 17 2420 0 := by decide +kernel
theorem i372_1873 : zi 372 1873 1874 0 0 0 := by decide +kernel
theorem i372_1874 : zi 372 1874 1875 26 0 0 := by decide +kernel
theorem i372_1862 : zi 372 1862 1863 0 0 0 := by decide +kernel
theorem i372_1863 : zi 372 1863 1864 26 0 0 := by decide +kernel
theorem i372_1876 : zi 372 1876 1877 2 1 0 := by decide +kernel
theorem i372_1877 : zi 372 1877 1878 2 0 0 := by decide +kernel
theorem i372_1878 : zi 372 1878 1879 1 4 0 := by decide +kernel
theorem i372_1879 : zi 372 1879 1880 0 0 1 := by decide +kernel
theorem i372_1880 : zi 372 1880 1881 13 0 0 := by decide +kernel
theorem i372_1881 : zi 372 1881 1882 8 0 0 := by decide +kernel
theorem i372_1882 : zi 372 1882 1883 2 0 0 := by decide +kernel
theorem i372_1883 : zi 372 1883 1884 1 4 0 := by decide +kernel
theorem i372_1884 : zi 372 1884 1885 0 0 2 := by decide +kernel
theorem i372_1885 : zi 372 1885 1886 13 0 0 := by decide +kernel
theorem i372_1886 : zi 372 1886 1887 8 0 0 := by decide +kernel
theorem i372_1887 : zi 372 1887 1888 2 0 0 := by decide +kernel
theorem i372_1888 : zi 372 1888 1889 1 4 0 := by decide +kernel
theorem i372_1889 : zi 372 1889 1890 0 0 3 := by decide +kernel
theorem i372_1890 : zi 372 1890 1891 13 0 0 := by decide +kernel
theorem i372_1891 : zi 372 1891 1892 8 0 0 := by decide +kernel
theorem i372_1892 : zi 372 1892 1893 2 3 0 := by decide +kernel
theorem i372_1893 : zi 372 1893 1894 35 361 0 := by decide +kernel
theorem na_361 : z_na 361 = 5 := by decide +kernel
theorem i372_1894 : zi 372 1894 1895 3 5 0 := by decide +kernel
theorem i372_1895 : zi 372 1895 1896 2 2 0 := by decide +kernel
theorem i372_1896 : zi 372 1896 1897 2 0 0 := by decide +kernel
theorem i372_1897 : zi 372 1897 1898 1 4 0 := by decide +kernel
theorem i372_1898 : zi 372 1898 1899 0 0 1 := by decide +kernel
theorem i372_1899 : zi 372 1899 1900 13 0 0 := by decide +kernel
theorem i372_1900 : zi 372 1900 1901 8 0 0 := by decide +kernel
theorem i372_1901 : zi 372 1901 1902 2 0 0 := by decide +kernel
theorem i372_1902 : zi 372 1902 1903 1 4 0 := by decide +kernel
theorem i372_1903 : zi 372 1903 1904 0 0 2 := by decide +kernel
theorem i372_1904 : zi 372 1904 1905 13 0 0 := by decide +kernel
theorem i372_1905 : zi 372 1905 1906 8 0 0 := by decide +kernel
theorem i372_1906 : zi 372 1906 1907 2 0 0 := by decide +kernel
theorem i372_1907 : zi 372 1907 1908 1 4 0 := by decide +kernel
theorem i372_1908 : zi 372 1908 1909 0 0 3 := by decide +kernel
theorem i372_1909 : zi 372 1909 1910 13 0 0 := by decide +kernel
theorem i372_1910 : zi 372 1910 1911 8 0 0 := by decide +kernel
theorem i372_1911 : zi 372 1911 1912 21 303 12 := by decide +kernel
theorem na_303 : z_na 303 = 3 := by decide +kernel
theorem i372_1912 : zi 372 1912 1913 3 6 0 := by decide +kernel
theorem i372_1913 : zi 372 1913 1914 2 2 0 := by decide +kernel
theorem i372_1914 : zi 372 1914 1915 21 211 12 := by decide +kernel
theorem i372_1915 : zi 372 1915 1916 1 5 0 := by decide +kernel
theorem i372_1916 : zi 372 1916 1917 19 1919 0 := by decide +kernel
theorem i372_1919 : zi 372 1919 1920 1 5 0 := by decide +kernel
theorem i372_1920 : zi 372 1920 1921 18 1930 1 := by decide +kernel
theorem i372_1921 : zi 372 1921 1922 2 3 0 := by decide +kernel
theorem i372_1922 : zi 372 1922 1923 0 0 0 := by decide +kernel
theorem i372_1923 : zi 372 1923 1924 37 0 0 := by decide +kernel
theorem i372_1924 : zi 372 1924 1925 1 6 0 := by decide +kernel
theorem i372_1925 : zi 372 1925 1926 30 0 0 := by decide +kernel
theorem i372_1926 : zi 372 1926 1927 38 0 0 := by decide +kernel
theorem i372_1927 : zi 372 1927 1928 18 1930 0 := by decide +kernel
theorem i372_1930 : zi 372 1930 1931 17 2420 0 := by decide +kernel
theorem i372_1928 : zi 372 1928 1929 0 0 0 := by decide +kernel
theorem i372_1929 : zi 372 1929 1930 26 0 0 := by decide +kernel
theorem i372_1917 : zi 372 1917 1918 0 0 0 := by decide +kernel
theorem i372_1918 : zi 372 1918 1919 26 0 0 := by decide +kernel
theorem i372_1931 : zi 372 1931 1932 2 1 0 := by decide +kernel
theorem i372_1932 : zi 372 1932 1933 2 0 0 := by decide +kernel
theorem i372_1933 : zi 372 1933 1934 1 4 0 := by decide +kernel
theorem i372_1934 : zi 372 1934 1935 0 0 1 := by decide +kernel
theorem i372_1935 : zi 372 1935 1936 13 0 0 := by decide +kernel
theorem i372_1936 : zi 372 1936 1937 8 0 0 := by decide +kernel
theorem i372_1937 : zi 372 1937 1938 2 0 0 := by decide +kernel
theorem i372_1938 : zi 372 1938 1939 1 4 0 := by decide +kernel
theorem i372_1939 : zi 372 1939 1940 0 0 2 := by decide +kernel
theorem i372_1940 : zi 372 1940 1941 13 0 0 := by decide +kernel
theorem i372_1941 : zi 372 1941 1942 8 0 0 := by decide +kernel
theorem i372_1942 : zi 372 1942 1943 2 0 0 := by decide +kernel
theorem i372_1943 : zi 372 1943 1944 1 4 0 := by decide +kernel
theorem i372_1944 : zi 372 1944 1945 0 0 3 := by decide +kernel
theorem i372_1945 : zi 372 1945 1946 13 0 0 := by decide +kernel
theorem i372_1946 : zi 372 1946 1947 8 0 0 := by decide +kernel
theorem i372_1947 : zi 372 1947 1948 2 3 0 := by decide +kernel
theorem i372_1948 : zi 372 1948 1949 35 362 0 := by decide +kernel
theorem na_362 : z_na 362 = 5 := by decide +kernel
theorem i372_1949 : zi 372 1949 1950 3 5 0 := by decide +kernel
theorem i372_1950 : zi 372 1950 1951 2 2 0 := by decide +kernel
theorem i372_1951 : zi 372 1951 1952 2 0 0 := by decide +kernel
theorem i372_1952 : zi 372 1952 1953 1 4 0 := by decide +kernel
theorem i372_1953 : zi 372 1953 1954 0 0 1 := by decide +kernel
theorem i372_1954 : zi 372 1954 1955 13 0 0 := by decide +kernel
theorem i372_1955 : zi 372 1955 1956 8 0 0 := by decide +kernel
theorem i372_1956 : zi 372 1956 1957 2 0 0 := by decide +kernel
theorem i372_1957 : zi 372 1957 1958 1 4 0 := by decide +kernel
theorem i372_1958 : zi 372 1958 1959 0 0 2 := by decide +kernel
theorem i372_1959 : zi 372 1959 1960 13 0 0 := by decide +kernel
theorem i372_1960 : zi 372 1960 1961 8 0 0 := by decide +kernel
theorem i372_1961 : zi 372 1961 1962 2 0 0 := by decide +kernel
theorem i372_1962 : zi 372 1962 1963 1 4 0 := by decide +kernel
theorem i372_1963 : zi 372 1963 1964 0 0 3 := by decide +kernel
theorem i372_1964 : zi 372 1964 1965 13 0 0 := by decide +kernel
theorem i372_1965 : zi 372 1965 1966 8 0 0 := by decide +kernel
theorem i372_1966 : zi 372 1966 1967 21 305 12 := by decide +kernel
theorem na_305 : z_na 305 = 3 := by decide +kernel
theorem i372_1967 : zi 372 1967 1968 3 6 0 := by decide +kernel
theorem i372_1968 : zi 372 1968 1969 2 2 0 := by decide +kernel
theorem i372_1969 : zi 372 1969 1970 21 211 12 := by decide +kernel
theorem i372_1970 : zi 372 1970 1971 1 5 0 := by decide +kernel
theorem i372_1971 : zi 372 1971 1972 19 1974 0 := by decide +kernel
theorem i372_1974 : zi 372 1974 1975 1 5 0 := by decide +kernel
theorem i372_1975 : zi 372 1975 1976 18 1985 1 := by decide +kernel
theorem i372_1976 : zi 372 1976 1977 2 3 0 := by decide +kernel
theorem i372_1977 : zi 372 1977 1978 0 0 0 := by decide +kernel
theorem i372_1978 : zi 372 1978 1979 37 0 0 := by decide +kernel
theorem i372_1979 : zi 372 1979 1980 1 6 0 := by decide +kernel
theorem i372_1980 : zi 372 1980 1981 30 0 0 := by decide +kernel
theorem i372_1981 : zi 372 1981 1982 38 0 0 := by decide +kernel
theorem i372_1982 : zi 372 1982 1983 18 1985 0 := by decide +kernel
theorem i372_1985 : zi 372 1985 1986 17 2420 0 := by decide +kernel
theorem i372_1983 : zi 372 1983 1984 0 0 0 := by decide +kernel
theorem i372_1984 : zi 372 1984 1985 26 0 0 := by decide +kernel
theorem i372_1972 : zi 372 1972 1973 0 0 0 := by decide +kernel
theorem i372_1973 : zi 372 1973 1974 26 0 0 := by decide +kernel
theorem i372_1986 : zi 372 1986 1987 2 1 0 := by decide +kernel
theorem i372_1987 : zi 372 1987 1988 21 174 11 := by decide +kernel
theorem na_174 : z_na 174 = 0 := by decide +kernel
theorem i372_1988 : zi 372 1988 1989 2 2 0 := by decide +kernel
theorem i372_1989 : zi 372 1989 1990 21 306 12 := by decide +kernel
theorem na_306 : z_na 306 = 0 := by decide +kernel
theorem i372_1990 : zi 372 1990 1991 19 2420 0 := by decide +kernel
theorem i372_1991 : zi 372 1991 1992 0 0 0 := by decide +kernel
theorem i372_1992 : zi 372 1992 1993 26 0 0 := by decide +kernel
theorem i372_1993 : zi 372 1993 1994 2 1 0 := by decide +kernel
theorem i372_1994 : zi 372 1994 1995 2 0 0 := by decide +kernel
theorem i372_1995 : zi 372 1995 1996 1 4 0 := by decide +kernel
theorem i372_1996 : zi 372 1996 1997 0 0 1 := by decide +kernel
theorem i372_1997 : zi 372 1997 1998 13 0 0 := by decide +kernel
theorem i372_1998 : zi 372 1998 1999 8 0 0 := by decide +kernel
theorem i372_1999 : zi 372 1999 2000 2 0 0 := by decide +kernel
theorem i372_2000 : zi 372 2000 2001 1 4 0 := by decide +kernel
theorem i372_2001 : zi 372 2001 2002 0 0 2 := by decide +kernel
theorem i372_2002 : zi 372 2002 2003 13 0 0 := by decide +kernel
theorem i372_2003 : zi 372 2003 2004 8 0 0 := by decide +kernel
theorem i372_2004 : zi 372 2004 2005 2 0 0 := by decide +kernel
theorem i372_2005 : zi 372 2005 2006 1 4 0 := by decide +kernel
theorem i372_2006 : zi 372 2006 2007 0 0 3 := by decide +kernel
theorem i372_2007 : zi 372 2007 2008 13 0 0 := by decide +kernel
theorem i372_2008 : zi 372 2008 2009 8 0 0 := by decide +kernel
theorem i372_2009 : zi 372 2009 2010 2 0 0 := by decide +kernel
theorem i372_2010 : zi 372 2010 2011 1 4 0 := by decide +kernel
theorem i372_2011 : zi 372 2011 2012 0 0 4 := by decide +kernel
theorem i372_2012 : zi 372 2012 2013 13 0 0 := by decide +kernel
theorem i372_2013 : zi 372 2013 2014 8 0 0 := by decide +kernel
theorem i372_2014 : zi 372 2014 2015 2 3 0 := by decide +kernel
theorem i372_2015 : zi 372 2015 2016 35 363 0 := by decide +kernel
theorem na_363 : z_na 363 = 6 := by decide +kernel
theorem i372_2016 : zi 372 2016 2017 3 5 0 := by decide +kernel
theorem i372_2017 : zi 372 2017 2018 2 2 0 := by decide +kernel
theorem i372_2018 : zi 372 2018 2019 2 0 0 := by decide +kernel
theorem i372_2019 : zi 372 2019 2020 1 4 0 := by decide +kernel
theorem i372_2020 : zi 372 2020 2021 0 0 1 := by decide +kernel
theorem i372_2021 : zi 372 2021 2022 13 0 0 := by decide +kernel
theorem i372_2022 : zi 372 2022 2023 8 0 0 := by decide +kernel
theorem i372_2023 : zi 372 2023 2024 2 0 0 := by decide +kernel
theorem i372_2024 : zi 372 2024 2025 1 4 0 := by decide +kernel
theorem i372_2025 : zi 372 2025 2026 0 0 2 := by decide +kernel
theorem i372_2026 : zi 372 2026 2027 13 0 0 := by decide +kernel
theorem i372_2027 : zi 372 2027 2028 8 0 0 := by decide +kernel
theorem i372_2028 : zi 372 2028 2029 2 0 0 := by decide +kernel
theorem i372_2029 : zi 372 2029 2030 1 4 0 := by decide +kernel
theorem i372_2030 : zi 372 2030 2031 0 0 3 := by decide +kernel
theorem i372_2031 : zi 372 2031 2032 13 0 0 := by decide +kernel
theorem i372_2032 : zi 372 2032 2033 8 0 0 := by decide +kernel
theorem i372_2033 : zi 372 2033 2034 2 0 0 := by decide +kernel
theorem i372_2034 : zi 372 2034 2035 1 4 0 := by decide +kernel
theorem i372_2035 : zi 372 2035 2036 0 0 4 := by decide +kernel
theorem i372_2036 : zi 372 2036 2037 13 0 0 := by decide +kernel
theorem i372_2037 : zi 372 2037 2038 8 0 0 := by decide +kernel
theorem i372_2038 : zi 372 2038 2039 21 310 12 := by decide +kernel
theorem na_310 : z_na 310 = 4 := by decide +kernel
theorem i372_2039 : zi 372 2039 2040 3 6 0 := by decide +kernel
theorem i372_2040 : zi 372 2040 2041 2 2 0 := by decide +kernel
theorem i372_2041 : zi 372 2041 2042 21 211 12 := by decide +kernel
theorem i372_2042 : zi 372 2042 2043 1 5 0 := by decide +kernel
theorem i372_2043 : zi 372 2043 2044 19 2046 0 := by decide +kernel
theorem i372_2046 : zi 372 2046 2047 1 5 0 := by decide +kernel
theorem i372_2047 : zi 372 2047 2048 18 2057 1 := by decide +kernel
theorem i372_2048 : zi 372 2048 2049 2 3 0 := by decide +kernel
theorem i372_2049 : zi 372 2049 2050 0 0 0 := by decide +kernel
theorem i372_2050 : zi 372 2050 2051 37 0 0 := by decide +kernel
theorem i372_2051 : zi 372 2051 2052 1 6 0 := by decide +kernel
theorem i372_2052 : zi 372 2052 2053 30 0 0 := by decide +kernel
theorem i372_2053 : zi 372 2053 2054 38 0 0 := by decide +kernel
theorem i372_2054 : zi 372 2054 2055 18 2057 0 := by decide +kernel
theorem i372_2057 : zi 372 2057 2058 17 2420 0 := by decide +kernel
theorem i372_2055 : zi 372 2055 2056 0 0 0 := by decide +kernel
theorem i372_2056 : zi 372 2056 2057 26 0 0 := by decide +kernel
theorem i372_2044 : zi 372 2044 2045 0 0 0 := by decide +kernel
theorem i372_2045 : zi 372 2045 2046 26 0 0 := by decide +kernel
theorem i372_2058 : zi 372 2058 2059 2 1 0 := by decide +kernel
theorem i372_2059 : zi 372 2059 2060 2 0 0 := by decide +kernel
theorem i372_2060 : zi 372 2060 2061 1 4 0 := by decide +kernel
theorem i372_2061 : zi 372 2061 2062 0 0 1 := by decide +kernel
theorem i372_2062 : zi 372 2062 2063 13 0 0 := by decide +kernel
theorem i372_2063 : zi 372 2063 2064 8 0 0 := by decide +kernel
theorem i372_2064 : zi 372 2064 2065 2 3 0 := by decide +kernel
theorem i372_2065 : zi 372 2065 2066 35 364 0 := by decide +kernel
theorem na_364 : z_na 364 = 3 := by decide +kernel
theorem i372_2066 : zi 372 2066 2067 3 5 0 := by decide +kernel
theorem i372_2067 : zi 372 2067 2068 2 2 0 := by decide +kernel
theorem i372_2068 : zi 372 2068 2069 2 0 0 := by decide +kernel
theorem i372_2069 : zi 372 2069 2070 1 4 0 := by decide +kernel
theorem i372_2070 : zi 372 2070 2071 0 0 1 := by decide +kernel
theorem i372_2071 : zi 372 2071 2072 13 0 0 := by decide +kernel
theorem i372_2072 : zi 372 2072 2073 8 0 0 := by decide +kernel
theorem i372_2073 : zi 372 2073 2074 21 311 12 := by decide +kernel
theorem na_311 : z_na 311 = 1 := by decide +kernel
theorem i372_2074 : zi 372 2074 2075 3 6 0 := by decide +kernel
theorem i372_2075 : zi 372 2075 2076 2 2 0 := by decide +kernel
theorem i372_2076 : zi 372 2076 2077 21 211 12 := by decide +kernel
theorem i372_2077 : zi 372 2077 2078 1 5 0 := by decide +kernel
theorem i372_2078 : zi 372 2078 2079 19 2081 0 := by decide +kernel
theorem i372_2081 : zi 372 2081 2082 1 5 0 := by decide +kernel
theorem i372_2082 : zi 372 2082 2083 18 2095 1 := by decide +kernel
theorem i372_2083 : zi 372 2083 2084 2 3 0 := by decide +kernel
theorem i372_2084 : zi 372 2084 2085 0 0 0 := by decide +kernel
theorem i372_2085 : zi 372 2085 2086 37 0 0 := by decide +kernel
theorem i372_2086 : zi 372 2086 2087 1 6 0 := by decide +kernel
theorem i372_2087 : zi 372 2087 2088 18 2090 0 := by decide +kernel
theorem i372_2088 : zi 372 2088 2089 39 0 1 := by decide +kernel
theorem i372_2089 : zi 372 2089 2090 17 2091 0 := by decide +kernel
theorem i372_2090 : zi 372 2090 2091 39 0 0 := by decide +kernel
theorem i372_2091 : zi 372 2091 2092 38 0 0 := by decide +kernel
theorem i372_2092 : zi 372 2092 2093 18 2095 0 := by decide +kernel
theorem i372_2095 : zi 372 2095 2096 17 2420 0 := by decide +kernel
theorem i372_2093 : zi 372 2093 2094 0 0 0 := by decide +kernel
theorem i372_2094 : zi 372 2094 2095 26 0 0 := by decide +kernel
theorem i372_2079 : zi 372 2079 2080 0 0 0 := by decide +kernel
theorem i372_2080 : zi 372 2080 2081 26 0 0 := by decide +kernel
theorem i372_2096 : zi 372 2096 2097 2 1 0 := by decide +kernel
theorem i372_2097 : zi 372 2097 2098 21 177 11 := by decide +kernel
theorem na_177 : z_na 177 = 0 := by decide +kernel
theorem i372_2098 : zi 372 2098 2099 2 2 0 := by decide +kernel
theorem i372_2099 : zi 372 2099 2100 21 312 12 := by decide +kernel
theorem na_312 : z_na 312 = 0 := by decide +kernel
theorem i372_2100 : zi 372 2100 2101 19 2420 0 := by decide +kernel
theorem i372_2101 : zi 372 2101 2102 0 0 0 := by decide +kernel
theorem i372_2102 : zi 372 2102 2103 26 0 0 := by decide +kernel
theorem i372_2103 : zi 372 2103 2104 2 1 0 := by decide +kernel
theorem i372_2104 : zi 372 2104 2105 2 0 0 := by decide +kernel
theorem i372_2105 : zi 372 2105 2106 1 4 0 := by decide +kernel
theorem i372_2106 : zi 372 2106 2107 0 0 1 := by decide +kernel
theorem i372_2107 : zi 372 2107 2108 13 0 0 := by decide +kernel
theorem i372_2108 : zi 372 2108 2109 8 0 0 := by decide +kernel
theorem i372_2109 : zi 372 2109 2110 2 3 0 := by decide +kernel
theorem i372_2110 : zi 372 2110 2111 35 365 0 := by decide +kernel
theorem na_365 : z_na 365 = 3 := by decide +kernel
theorem i372_2111 : zi 372 2111 2112 3 5 0 := by decide +kernel
theorem i372_2112 : zi 372 2112 2113 2 2 0 := by decide +kernel
theorem i372_2113 : zi 372 2113 2114 2 0 0 := by decide +kernel
theorem i372_2114 : zi 372 2114 2115 1 4 0 := by decide +kernel
theorem i372_2115 : zi 372 2115 2116 0 0 1 := by decide +kernel
theorem i372_2116 : zi 372 2116 2117 13 0 0 := by decide +kernel
theorem i372_2117 : zi 372 2117 2118 8 0 0 := by decide +kernel
theorem i372_2118 : zi 372 2118 2119 21 313 12 := by decide +kernel
theorem na_313 : z_na 313 = 1 := by decide +kernel
theorem i372_2119 : zi 372 2119 2120 3 6 0 := by decide +kernel
theorem i372_2120 : zi 372 2120 2121 2 2 0 := by decide +kernel
theorem i372_2121 : zi 372 2121 2122 21 211 12 := by decide +kernel
theorem i372_2122 : zi 372 2122 2123 1 5 0 := by decide +kernel
theorem i372_2123 : zi 372 2123 2124 19 2126 0 := by decide +kernel
theorem i372_2126 : zi 372 2126 2127 1 5 0 := by decide +kernel
theorem i372_2127 : zi 372 2127 2128 18 2140 1 := by decide +kernel
theorem i372_2128 : zi 372 2128 2129 2 3 0 := by decide +kernel
theorem i372_2129 : zi 372 2129 2130 0 0 0 := by decide +kernel
theorem i372_2130 : zi 372 2130 2131 37 0 0 := by decide +kernel
theorem i372_2131 : zi 372 2131 2132 1 6 0 := by decide +kernel
theorem i372_2132 : zi 372 2132 2133 18 2135 0 := by decide +kernel
theorem i372_2133 : zi 372 2133 2134 39 0 1 := by decide +kernel
theorem i372_2134 : zi 372 2134 2135 17 2136 0 := by decide +kernel
theorem i372_2135 : zi 372 2135 2136 39 0 0 := by decide +kernel
theorem i372_2136 : zi 372 2136 2137 38 0 0 := by decide +kernel
theorem i372_2137 : zi 372 2137 2138 18 2140 0 := by decide +kernel
theorem i372_2140 : zi 372 2140 2141 17 2420 0 := by decide +kernel
theorem i372_2138 : zi 372 2138 2139 0 0 0 := by decide +kernel
theorem i372_2139 : zi 372 2139 2140 26 0 0 := by decide +kernel
theorem i372_2124 : zi 372 2124 2125 0 0 0 := by decide +kernel
theorem i372_2125 : zi 372 2125 2126 26 0 0 := by decide +kernel
theorem i372_2141 : zi 372 2141 2142 2 1 0 := by decide +kernel
theorem i372_2142 : zi 372 2142 2143 2 0 0 := by decide +kernel
theorem i372_2143 : zi 372 2143 2144 1 4 0 := by decide +kernel
theorem i372_2144 : zi 372 2144 2145 0 0 1 := by decide +kernel
theorem i372_2145 : zi 372 2145 2146 13 0 0 := by decide +kernel
theorem i372_2146 : zi 372 2146 2147 8 0 0 := by decide +kernel
theorem i372_2147 : zi 372 2147 2148 2 3 0 := by decide +kernel
theorem i372_2148 : zi 372 2148 2149 35 366 0 := by decide +kernel
theorem na_366 : z_na 366 = 3 := by decide +kernel
theorem i372_2149 : zi 372 2149 2150 3 5 0 := by decide +kernel
theorem i372_2150 : zi 372 2150 2151 2 2 0 := by decide +kernel
theorem i372_2151 : zi 372 2151 2152 2 0 0 := by decide +kernel
theorem i372_2152 : zi 372 2152 2153 1 4 0 := by decide +kernel
theorem i372_2153 : zi 372 2153 2154 0 0 1 := by decide +kernel
theorem i372_2154 : zi 372 2154 2155 13 0 0 := by decide +kernel
theorem i372_2155 : zi 372 2155 2156 8 0 0 := by decide +kernel
theorem i372_2156 : zi 372 2156 2157 21 314 12 := by decide +kernel
theorem na_314 : z_na 314 = 1 := by decide +kernel
theorem i372_2157 : zi 372 2157 2158 3 6 0 := by decide +kernel
theorem i372_2158 : zi 372 2158 2159 2 2 0 := by decide +kernel
theorem i372_2159 : zi 372 2159 2160 21 211 12 := by decide +kernel
theorem i372_2160 : zi 372 2160 2161 1 5 0 := by decide +kernel
theorem i372_2161 : zi 372 2161 2162 19 2164 0 := by decide +kernel
theorem i372_2164 : zi 372 2164 2165 1 5 0 := by decide +kernel
theorem i372_2165 : zi 372 2165 2166 18 2175 1 := by decide +kernel
theorem i372_2166 : zi 372 2166 2167 2 3 0 := by decide +kernel
theorem i372_2167 : zi 372 2167 2168 0 0 0 := by decide +kernel
theorem i372_2168 : zi 372 2168 2169 37 0 0 := by decide +kernel
theorem i372_2169 : zi 372 2169 2170 1 6 0 := by decide +kernel
theorem i372_2170 : zi 372 2170 2171 30 0 0 := by decide +kernel
theorem i372_2171 : zi 372 2171 2172 38 0 0 := by decide +kernel
theorem i372_2172 : zi 372 2172 2173 18 2175 0 := by decide +kernel
theorem i372_2175 : zi 372 2175 2176 17 2420 0 := by decide +kernel
theorem i372_2173 : zi 372 2173 2174 0 0 0 := by decide +kernel
theorem i372_2174 : zi 372 2174 2175 26 0 0 := by decide +kernel
theorem i372_2162 : zi 372 2162 2163 0 0 0 := by decide +kernel
theorem i372_2163 : zi 372 2163 2164 26 0 0 := by decide +kernel
theorem i372_2176 : zi 372 2176 2177 2 1 0 := by decide +kernel
theorem i372_2177 : zi 372 2177 2178 2 0 0 := by decide +kernel
theorem i372_2178 : zi 372 2178 2179 1 4 0 := by decide +kernel
theorem i372_2179 : zi 372 2179 2180 0 0 1 := by decide +kernel
theorem i372_2180 : zi 372 2180 2181 13 0 0 := by decide +kernel
theorem i372_2181 : zi 372 2181 2182 8 0 0 := by decide +kernel
theorem i372_2182 : zi 372 2182 2183 2 0 0 := by decide +kernel
theorem i372_2183 : zi 372 2183 2184 1 4 0 := by decide +kernel
theorem i372_2184 : zi 372 2184 2185 0 0 2 := by decide +kernel
theorem i372_2185 : zi 372 2185 2186 13 0 0 := by decide +kernel
theorem i372_2186 : zi 372 2186 2187 8 0 0 := by decide +kernel
theorem i372_2187 : zi 372 2187 2188 18 2190 0 := by decide +kernel
theorem i372_2190 : zi 372 2190 2191 0 0 0 := by decide +kernel
theorem i372_2188 : zi 372 2188 2189 0 0 1 := by decide +kernel
theorem i372_2189 : zi 372 2189 2190 17 2191 0 := by decide +kernel
theorem i372_2191 : zi 372 2191 2192 2 0 0 := by decide +kernel
theorem i372_2192 : zi 372 2192 2193 1 4 0 := by decide +kernel
theorem i372_2193 : zi 372 2193 2194 0 0 3 := by decide +kernel
theorem i372_2194 : zi 372 2194 2195 13 0 0 := by decide +kernel
theorem i372_2195 : zi 372 2195 2196 8 0 0 := by decide +kernel
theorem i372_2196 : zi 372 2196 2197 18 2199 0 := by decide +kernel
theorem i372_2199 : zi 372 2199 2200 0 0 0 := by decide +kernel
theorem i372_2197 : zi 372 2197 2198 0 0 1 := by decide +kernel
theorem i372_2198 : zi 372 2198 2199 17 2200 0 := by decide +kernel
theorem i372_2200 : zi 372 2200 2201 2 0 0 := by decide +kernel
theorem i372_2201 : zi 372 2201 2202 1 4 0 := by decide +kernel
theorem i372_2202 : zi 372 2202 2203 0 0 4 := by decide +kernel
theorem i372_2203 : zi 372 2203 2204 13 0 0 := by decide +kernel
theorem i372_2204 : zi 372 2204 2205 8 0 0 := by decide +kernel
theorem i372_2205 : zi 372 2205 2206 2 3 0 := by decide +kernel
theorem i372_2206 : zi 372 2206 2207 35 367 0 := by decide +kernel
theorem na_367 : z_na 367 = 6 := by decide +kernel
theorem i372_2207 : zi 372 2207 2208 3 5 0 := by decide +kernel
theorem i372_2208 : zi 372 2208 2209 2 2 0 := by decide +kernel
theorem i372_2209 : zi 372 2209 2210 2 0 0 := by decide +kernel
theorem i372_2210 : zi 372 2210 2211 1 4 0 := by decide +kernel
theorem i372_2211 : zi 372 2211 2212 0 0 1 := by decide +kernel
theorem i372_2212 : zi 372 2212 2213 13 0 0 := by decide +kernel
theorem i372_2213 : zi 372 2213 2214 8 0 0 := by decide +kernel
theorem i372_2214 : zi 372 2214 2215 2 0 0 := by decide +kernel
theorem i372_2215 : zi 372 2215 2216 1 4 0 := by decide +kernel
theorem i372_2216 : zi 372 2216 2217 0 0 2 := by decide +kernel
theorem i372_2217 : zi 372 2217 2218 13 0 0 := by decide +kernel
theorem i372_2218 : zi 372 2218 2219 8 0 0 := by decide +kernel
theorem i372_2219 : zi 372 2219 2220 18 2222 0 := by decide +kernel
theorem i372_2222 : zi 372 2222 2223 0 0 0 := by decide +kernel
theorem i372_2220 : zi 372 2220 2221 0 0 1 := by decide +kernel
theorem i372_2221 : zi 372 2221 2222 17 2223 0 := by decide +kernel
theorem i372_2223 : zi 372 2223 2224 2 0 0 := by decide +kernel
theorem i372_2224 : zi 372 2224 2225 1 4 0 := by decide +kernel
theorem i372_2225 : zi 372 2225 2226 0 0 3 := by decide +kernel
theorem i372_2226 : zi 372 2226 2227 13 0 0 := by decide +kernel
theorem i372_2227 : zi 372 2227 2228 8 0 0 := by decide +kernel
theorem i372_2228 : zi 372 2228 2229 18 2231 0 := by decide +kernel
theorem i372_2231 : zi 372 2231 2232 0 0 0 := by decide +kernel
theorem i372_2229 : zi 372 2229 2230 0 0 1 := by decide +kernel
theorem i372_2230 : zi 372 2230 2231 17 2232 0 := by decide +kernel
theorem i372_2232 : zi 372 2232 2233 2 0 0 := by decide +kernel
theorem i372_2233 : zi 372 2233 2234 1 4 0 := by decide +kernel
theorem i372_2234 : zi 372 2234 2235 0 0 4 := by decide +kernel
theorem i372_2235 : zi 372 2235 2236 13 0 0 := by decide +kernel
theorem i372_2236 : zi 372 2236 2237 8 0 0 := by decide +kernel
theorem i372_2237 : zi 372 2237 2238 21 316 12 := by decide +kernel
theorem na_316 : z_na 316 = 4 := by decide +kernel
theorem i372_2238 : zi 372 2238 2239 3 6 0 := by decide +kernel
theorem i372_2239 : zi 372 2239 2240 2 2 0 := by decide +kernel
theorem i372_2240 : zi 372 2240 2241 21 211 12 := by decide +kernel
theorem i372_2241 : zi 372 2241 2242 1 5 0 := by decide +kernel
theorem i372_2242 : zi 372 2242 2243 19 2245 0 := by decide +kernel
theorem i372_2245 : zi 372 2245 2246 1 5 0 := by decide +kernel
theorem i372_2246 : zi 372 2246 2247 18 2259 1 := by decide +kernel
theorem i372_2247 : zi 372 2247 2248 2 3 0 := by decide +kernel
theorem i372_2248 : zi 372 2248 2249 0 0 0 := by decide +kernel
theorem i372_2249 : zi 372 2249 2250 37 0 0 := by decide +kernel
theorem i372_2250 : zi 372 2250 2251 1 6 0 := by decide +kernel
theorem i372_2251 : zi 372 2251 2252 18 2254 0 := by decide +kernel
theorem i372_2254 : zi 372 2254 2255 39 0 0 := by decide +kernel
theorem i372_2252 : zi 372 2252 2253 39 0 1 := by decide +kernel
theorem i372_2253 : zi 372 2253 2254 17 2255 0 := by decide +kernel
theorem i372_2255 : zi 372 2255 2256 38 0 0 := by decide +kernel
theorem i372_2256 : zi 372 2256 2257 18 2259 0 := by decide +kernel
theorem i372_2259 : zi 372 2259 2260 17 2420 0 := by decide +kernel
theorem i372_2257 : zi 372 2257 2258 0 0 0 := by decide +kernel
theorem i372_2258 : zi 372 2258 2259 26 0 0 := by decide +kernel
theorem i372_2243 : zi 372 2243 2244 0 0 0 := by decide +kernel
theorem i372_2244 : zi 372 2244 2245 26 0 0 := by decide +kernel
theorem i372_2260 : zi 372 2260 2261 2 1 0 := by decide +kernel
theorem i372_2261 : zi 372 2261 2262 2 0 0 := by decide +kernel
theorem i372_2262 : zi 372 2262 2263 1 4 0 := by decide +kernel
theorem i372_2263 : zi 372 2263 2264 0 0 1 := by decide +kernel
theorem i372_2264 : zi 372 2264 2265 13 0 0 := by decide +kernel
theorem i372_2265 : zi 372 2265 2266 8 0 0 := by decide +kernel
theorem i372_2266 : zi 372 2266 2267 2 3 0 := by decide +kernel
theorem i372_2267 : zi 372 2267 2268 35 368 0 := by decide +kernel
theorem na_368 : z_na 368 = 3 := by decide +kernel
theorem i372_2268 : zi 372 2268 2269 3 5 0 := by decide +kernel
theorem i372_2269 : zi 372 2269 2270 2 2 0 := by decide +kernel
theorem i372_2270 : zi 372 2270 2271 2 0 0 := by decide +kernel
theorem i372_2271 : zi 372 2271 2272 1 4 0 := by decide +kernel
theorem i372_2272 : zi 372 2272 2273 0 0 1 := by decide +kernel
theorem i372_2273 : zi 372 2273 2274 13 0 0 := by decide +kernel
theorem i372_2274 : zi 372 2274 2275 8 0 0 := by decide +kernel
theorem i372_2275 : zi 372 2275 2276 21 317 12 := by decide +kernel
theorem na_317 : z_na 317 = 1 := by decide +kernel
theorem i372_2276 : zi 372 2276 2277 3 6 0 := by decide +kernel
theorem i372_2277 : zi 372 2277 2278 2 2 0 := by decide +kernel
theorem i372_2278 : zi 372 2278 2279 21 211 12 := by decide +kernel
theorem i372_2279 : zi 372 2279 2280 1 5 0 := by decide +kernel
theorem i372_2280 : zi 372 2280 2281 19 2283 0 := by decide +kernel
theorem i372_2283 : zi 372 2283 2284 1 5 0 := by decide +kernel
theorem i372_2284 : zi 372 2284 2285 18 2294 1 := by decide +kernel
theorem i372_2285 : zi 372 2285 2286 2 3 0 := by decide +kernel
theorem i372_2286 : zi 372 2286 2287 0 0 0 := by decide +kernel
theorem i372_2287 : zi 372 2287 2288 37 0 0 := by decide +kernel
theorem i372_2288 : zi 372 2288 2289 1 6 0 := by decide +kernel
theorem i372_2289 : zi 372 2289 2290 30 0 0 := by decide +kernel
theorem i372_2290 : zi 372 2290 2291 38 0 0 := by decide +kernel
theorem i372_2291 : zi 372 2291 2292 18 2294 0 := by decide +kernel
theorem i372_2294 : zi 372 2294 2295 17 2420 0 := by decide +kernel
theorem i372_2292 : zi 372 2292 2293 0 0 0 := by decide +kernel
theorem i372_2293 : zi 372 2293 2294 26 0 0 := by decide +kernel
theorem i372_2281 : zi 372 2281 2282 0 0 0 := by decide +kernel
theorem i372_2282 : zi 372 2282 2283 26 0 0 := by decide +kernel
theorem i372_2295 : zi 372 2295 2296 2 1 0 := by decide +kernel
theorem i372_2296 : zi 372 2296 2297 2 0 0 := by decide +kernel
theorem i372_2297 : zi 372 2297 2298 1 4 0 := by decide +kernel
theorem i372_2298 : zi 372 2298 2299 0 0 1 := by decide +kernel
theorem i372_2299 : zi 372 2299 2300 13 0 0 := by decide +kernel
theorem i372_2300 : zi 372 2300 2301 8 0 0 := by decide +kernel
theorem i372_2301 : zi 372 2301 2302 2 3 0 := by decide +kernel
theorem i372_2302 : zi 372 2302 2303 35 369 0 := by decide +kernel
theorem na_369 : z_na 369 = 3 := by decide +kernel
theorem i372_2303 : zi 372 2303 2304 3 5 0 := by decide +kernel
theorem i372_2304 : zi 372 2304 2305 2 2 0 := by decide +kernel
theorem i372_2305 : zi 372 2305 2306 2 0 0 := by decide +kernel
theorem i372_2306 : zi 372 2306 2307 1 4 0 := by decide +kernel
theorem i372_2307 : zi 372 2307 2308 0 0 1 := by decide +kernel
theorem i372_2308 : zi 372 2308 2309 13 0 0 := by decide +kernel
theorem i372_2309 : zi 372 2309 2310 8 0 0 := by decide +kernel
theorem i372_2310 : zi 372 2310 2311 21 318 12 := by decide +kernel
theorem na_318 : z_na 318 = 1 := by decide +kernel
theorem i372_2311 : zi 372 2311 2312 3 6 0 := by decide +kernel
theorem i372_2312 : zi 372 2312 2313 2 2 0 := by decide +kernel
theorem i372_2313 : zi 372 2313 2314 21 211 12 := by decide +kernel
theorem i372_2314 : zi 372 2314 2315 1 5 0 := by decide +kernel
theorem i372_2315 : zi 372 2315 2316 19 2318 0 := by decide +kernel
theorem i372_2318 : zi 372 2318 2319 1 5 0 := by decide +kernel
theorem i372_2319 : zi 372 2319 2320 18 2329 1 := by decide +kernel
theorem i372_2320 : zi 372 2320 2321 2 3 0 := by decide +kernel
theorem i372_2321 : zi 372 2321 2322 0 0 0 := by decide +kernel
theorem i372_2322 : zi 372 2322 2323 37 0 0 := by decide +kernel
theorem i372_2323 : zi 372 2323 2324 1 6 0 := by decide +kernel
theorem i372_2324 : zi 372 2324 2325 30 0 0 := by decide +kernel
theorem i372_2325 : zi 372 2325 2326 38 0 0 := by decide +kernel
theorem i372_2326 : zi 372 2326 2327 18 2329 0 := by decide +kernel
theorem i372_2329 : zi 372 2329 2330 17 2420 0 := by decide +kernel
theorem i372_2327 : zi 372 2327 2328 0 0 0 := by decide +kernel
theorem i372_2328 : zi 372 2328 2329 26 0 0 := by decide +kernel
theorem i372_2316 : zi 372 2316 2317 0 0 0 := by decide +kernel
theorem i372_2317 : zi 372 2317 2318 26 0 0 := by decide +kernel
theorem i372_2330 : zi 372 2330 2331 2 1 0 := by decide +kernel
theorem i372_2331 : zi 372 2331 2332 2 0 0 := by decide +kernel
theorem i372_2332 : zi 372 2332 2333 1 4 0 := by decide +kernel
theorem i372_2333 : zi 372 2333 2334 0 0 1 := by decide +kernel
theorem i372_2334 : zi 372 2334 2335 13 0 0 := by decide +kernel
theorem i372_2335 : zi 372 2335 2336 8 0 0 := by decide +kernel
theorem i372_2336 : zi 372 2336 2337 2 0 0 := by decide +kernel
theorem i372_2337 : zi 372 2337 2338 1 4 0 := by decide +kernel
theorem i372_2338 : zi 372 2338 2339 0 0 2 := by decide +kernel
theorem i372_2339 : zi 372 2339 2340 13 0 0 := by decide +kernel
theorem i372_2340 : zi 372 2340 2341 8 0 0 := by decide +kernel
theorem i372_2341 : zi 372 2341 2342 2 0 0 := by decide +kernel
theorem i372_2342 : zi 372 2342 2343 1 4 0 := by decide +kernel
theorem i372_2343 : zi 372 2343 2344 0 0 3 := by decide +kernel
theorem i372_2344 : zi 372 2344 2345 13 0 0 := by decide +kernel
theorem i372_2345 : zi 372 2345 2346 8 0 0 := by decide +kernel
theorem i372_2346 : zi 372 2346 2347 2 3 0 := by decide +kernel
theorem i372_2347 : zi 372 2347 2348 35 370 0 := by decide +kernel
theorem na_370 : z_na 370 = 5 := by decide +kernel
theorem i372_2348 : zi 372 2348 2349 3 5 0 := by decide +kernel
theorem i372_2349 : zi 372 2349 2350 2 2 0 := by decide +kernel
theorem i372_2350 : zi 372 2350 2351 2 0 0 := by decide +kernel
theorem i372_2351 : zi 372 2351 2352 1 4 0 := by decide +kernel
theorem i372_2352 : zi 372 2352 2353 0 0 1 := by decide +kernel
theorem i372_2353 : zi 372 2353 2354 13 0 0 := by decide +kernel
theorem i372_2354 : zi 372 2354 2355 8 0 0 := by decide +kernel
theorem i372_2355 : zi 372 2355 2356 2 0 0 := by decide +kernel
theorem i372_2356 : zi 372 2356 2357 1 4 0 := by decide +kernel
theorem i372_2357 : zi 372 2357 2358 0 0 2 := by decide +kernel
theorem i372_2358 : zi 372 2358 2359 13 0 0 := by decide +kernel
theorem i372_2359 : zi 372 2359 2360 8 0 0 := by decide +kernel
theorem i372_2360 : zi 372 2360 2361 2 0 0 := by decide +kernel
theorem i372_2361 : zi 372 2361 2362 1 4 0 := by decide +kernel
theorem i372_2362 : zi 372 2362 2363 0 0 3 := by decide +kernel
theorem i372_2363 : zi 372 2363 2364 13 0 0 := by decide +kernel
theorem i372_2364 : zi 372 2364 2365 8 0 0 := by decide +kernel
theorem i372_2365 : zi 372 2365 2366 21 319 12 := by decide +kernel
theorem na_319 : z_na 319 = 3 := by decide +kernel
theorem i372_2366 : zi 372 2366 2367 3 6 0 := by decide +kernel
theorem i372_2367 : zi 372 2367 2368 2 2 0 := by decide +kernel
theorem i372_2368 : zi 372 2368 2369 21 211 12 := by decide +kernel
theorem i372_2369 : zi 372 2369 2370 1 5 0 := by decide +kernel
theorem i372_2370 : zi 372 2370 2371 19 2373 0 := by decide +kernel
theorem i372_2373 : zi 372 2373 2374 1 5 0 := by decide +kernel
theorem i372_2374 : zi 372 2374 2375 18 2384 1 := by decide +kernel
theorem i372_2375 : zi 372 2375 2376 2 3 0 := by decide +kernel
theorem i372_2376 : zi 372 2376 2377 0 0 0 := by decide +kernel
theorem i372_2377 : zi 372 2377 2378 37 0 0 := by decide +kernel
theorem i372_2378 : zi 372 2378 2379 1 6 0 := by decide +kernel
theorem i372_2379 : zi 372 2379 2380 30 0 0 := by decide +kernel
theorem i372_2380 : zi 372 2380 2381 38 0 0 := by decide +kernel
theorem i372_2381 : zi 372 2381 2382 18 2384 0 := by decide +kernel
theorem i372_2384 : zi 372 2384 2385 17 2420 0 := by decide +kernel
theorem i372_2382 : zi 372 2382 2383 0 0 0 := by decide +kernel
theorem i372_2383 : zi 372 2383 2384 26 0 0 := by decide +kernel
theorem i372_2371 : zi 372 2371 2372 0 0 0 := by decide +kernel
theorem i372_2372 : zi 372 2372 2373 26 0 0 := by decide +kernel
theorem i372_2385 : zi 372 2385 2386 2 1 0 := by decide +kernel
theorem i372_2386 : zi 372 2386 2387 2 0 0 := by decide +kernel
theorem i372_2387 : zi 372 2387 2388 1 4 0 := by decide +kernel
theorem i372_2388 : zi 372 2388 2389 0 0 1 := by decide +kernel
theorem i372_2389 : zi 372 2389 2390 13 0 0 := by decide +kernel
theorem i372_2390 : zi 372 2390 2391 8 0 0 := by decide +kernel
theorem i372_2391 : zi 372 2391 2392 2 3 0 := by decide +kernel
theorem i372_2392 : zi 372 2392 2393 35 371 0 := by decide +kernel
theorem na_371 : z_na 371 = 3 := by decide +kernel
theorem i372_2393 : zi 372 2393 2394 3 5 0 := by decide +kernel
theorem i372_2394 : zi 372 2394 2395 2 2 0 := by decide +kernel
theorem i372_2395 : zi 372 2395 2396 2 0 0 := by decide +kernel
theorem i372_2396 : zi 372 2396 2397 1 4 0 := by decide +kernel
theorem i372_2397 : zi 372 2397 2398 0 0 1 := by decide +kernel
theorem i372_2398 : zi 372 2398 2399 13 0 0 := by decide +kernel
theorem i372_2399 : zi 372 2399 2400 8 0 0 := by decide +kernel
theorem i372_2400 : zi 372 2400 2401 21 321 12 := by decide +kernel
theorem na_321 : z_na 321 = 1 := by decide +kernel
theorem i372_2401 : zi 372 2401 2402 3 6 0 := by decide +kernel
theorem i372_2402 : zi 372 2402 2403 2 2 0 := by decide +kernel
theorem i372_2403 : zi 372 2403 2404 21 211 12 := by decide +kernel
theorem i372_2404 : zi 372 2404 2405 1 5 0 := by decide +kernel
theorem i372_2405 : zi 372 2405 2406 19 2408 0 := by decide +kernel
theorem i372_2408 : zi 372 2408 2409 1 5 0 := by decide +kernel
theorem i372_2409 : zi 372 2409 2410 18 2419 1 := by decide +kernel
theorem i372_2410 : zi 372 2410 2411 2 3 0 := by decide +kernel
theorem i372_2411 : zi 372 2411 2412 0 0 0 := by decide +kernel
theorem i372_2412 : zi 372 2412 2413 37 0 0 := by decide +kernel
theorem i372_2413 : zi 372 2413 2414 1 6 0 := by decide +kernel
theorem i372_2414 : zi 372 2414 2415 30 0 0 := by decide +kernel
theorem i372_2415 : zi 372 2415 2416 38 0 0 := by decide +kernel
theorem i372_2416 : zi 372 2416 2417 18 2419 0 := by decide +kernel
theorem i372_2419 : zi 372 2419 2420 17 2420 0 := by decide +kernel
theorem i372_2417 : zi 372 2417 2418 0 0 0 := by decide +kernel
theorem i372_2418 : zi 372 2418 2419 26 0 0 := by decide +kernel
theorem i372_2406 : zi 372 2406 2407 0 0 0 := by decide +kernel
theorem i372_2407 : zi 372 2407 2408 26 0 0 := by decide +kernel
theorem i372_13 : zi 372 13 14 1 4 0 := by decide +kernel
theorem i372_14 : zi 372 14 15 2 0 0 := by decide +kernel
theorem i372_15 : zi 372 15 16 12 0 0 := by decide +kernel
theorem i372_16 : zi 372 16 17 0 0 9 := by decide +kernel
theorem i372_17 : zi 372 17 18 13 1 0 := by decide +kernel
theorem i372_18 : zi 372 18 19 19 2422 4 := by decide +kernel
theorem i372_19 : zi 372 19 20 2 0 0 := by decide +kernel
theorem i372_20 : zi 372 20 21 1 4 0 := by decide +kernel
theorem i372_21 : zi 372 21 22 8 0 0 := by decide +kernel
theorem i372_22 : zi 372 22 23 0 0 63 := by decide +kernel
theorem i372_23 : zi 372 23 24 13 5 0 := by decide +kernel
theorem i372_24 : zi 372 24 25 36 1 0 := by decide +kernel
def F324_0 (a b c : Int32) (S : zS) : Int32 := (if (((¬ (a < 0)) ∧ (¬ (65535 < a))) ∧ (((¬ (b < 1)) ∧ (¬ (6 < b))) ∧ ((¬ (c < 1)) ∧ (¬ (b < c))))) then ((if (¬ (¬ ((S 1 1) ≤ 0))) then (0 : Int32) else 2) : Int32) else 1)
def G324_0 (a b c : Int32) (S : zS) : zS := (if (((¬ (a < 0)) ∧ (¬ (65535 < a))) ∧ (((¬ (b < 1)) ∧ (¬ (6 < b))) ∧ ((¬ (c < 1)) ∧ (¬ (b < c))))) then (if (¬ (¬ ((S 1 1) ≤ 0))) then (G87 a b c S) else S) else S)
def E324_0 (a b c : Int32) (S : zS) : Nat := (if (((¬ (a < 0)) ∧ (¬ (65535 < a))) ∧ (((¬ (b < 1)) ∧ (¬ (6 < b))) ∧ ((¬ (c < 1)) ∧ (¬ (b < c))))) then ((if (¬ (¬ ((S 1 1) ≤ 0))) then (0 : Nat) else 1) : Nat) else 1)
set_option maxRecDepth 100000 in
theorem E324_0_le (a b c : Int32) (S : zS) : E324_0 a b c S ≤ 1 := by unfold E324_0; (repeat' split) <;> decide
set_option maxRecDepth 100000 in
theorem f324_0 {L : Nat} (a b c : Int32) (S : zS) (g0 : (((¬ (a < 0)) ∧ (¬ (65535 < a))) ∧ (((¬ (b < 1)) ∧ (¬ (6 < b))) ∧ ((¬ (c < 1)) ∧ (¬ (b < c))))) → (¬ (¬ ((S 1 1) ≤ 0))) → zn 6 ((z_up (if ((S 1 0) = (-1)) then (z_up S 1 0 (zrem (zrem ((1103 * a) + 12345) 65536) 257)) else S) 1 1 b) 1 1)) (g1 : (((¬ (a < 0)) ∧ (¬ (65535 < a))) ∧ (((¬ (b < 1)) ∧ (¬ (6 < b))) ∧ ((¬ (c < 1)) ∧ (¬ (b < c))))) → (¬ (¬ ((S 1 1) ≤ 0))) → zn 6 ((z_up (z_up (if ((S 1 0) = (-1)) then (z_up S 1 0 (zrem (zrem ((1103 * a) + 12345) 65536) 257)) else S) 1 1 b) 1 2 c) 1 2)) : zf L 324 [.inr (.inr 0), .inl a, .inl b, .inl c] S (.inl (some (.inl (F324_0 a b c S))), (G324_0 a b c S), (E324_0 a b c S)) := zf_of (en_324 _ _ _ _) (zr_2_0 i324_0 (zr_1_1 i324_1 (zr_1_2 i324_2 (zr_1_3 i324_3 (zt_cast (zr_callO (f131 a b c S (fun h3839 h3840 => (g0 h3839 h3840)) (fun h3841 h3842 => (g1 h3841 h3842))) (fun h3843 h3845 => zt_cast (zr_callO h3845 (fun h3847 h3849 => zr_cn (zs_32_3 i324_4 na_131 ob_0 rfl) h3849 (zr_17 i324_5 (zr_0 i324_12 kc_0 (zr_25 i324_13)))) (fun h3848 h3850 => zt_callH (zs_32_3 i324_4 na_131 ob_0 rfl) h3850 hd_324_2)) (zm_re zz_e zz_e zz_e)) (fun h3844 h3846 => zt_callH (zs_32_3 i324_4 na_131 ob_0 rfl) h3846 hd_324_1)) (zm_re zz_e zz_e zz_e))))))
def F325_0_148 (a : Int32) (S : zS) : Int32 := (zb (¬ ((¬ (a < 1)) ∧ (¬ ((S 1 1) < a)))))
def G325_0_148 (a : Int32) (S : zS) : zS := (if ((¬ (a < 1)) ∧ (¬ ((S 1 1) < a))) then (z_up S 148 0 (S 14 a.toNatClampNeg)) else S)
def E325_0_148 (a : Int32) (S : zS) : Nat := (if ((¬ (a < 1)) ∧ (¬ ((S 1 1) < a))) then (0 : Nat) else 1)
set_option maxRecDepth 100000 in
theorem E325_0_148_le (a : Int32) (S : zS) : E325_0_148 a S ≤ 1 := by unfold E325_0_148; (repeat' split) <;> decide
set_option maxRecDepth 100000 in
theorem f325_0_148 {L : Nat} (a : Int32) (S : zS) (g0 : ((¬ (a < 1)) ∧ (¬ ((S 1 1) < a))) → zx 7 a) : zf L 325 [.inr (.inr 0), .inl a, .inr (.inr 148)] S (.inl (some (.inl (F325_0_148 a S))), (G325_0_148 a S), (E325_0_148 a S)) := zf_of (en_325 _ _ _) (zr_2_2 i325_0 (zr_0 i325_1 kc_0 (zr_2_0 i325_2 (zr_1_1 i325_3 (zt_cast (zr_callO (f132 a S (fun h3851 => (g0 h3851))) (fun h3852 h3854 => zr_cv (zs_32_1 i325_4 na_132 ob_0 rfl) h3854 (zr_30 i325_5 (zr_31 i325_6 ar_148 (zx_1_0) kt_0 (zr_17 i325_7 (zr_0 i325_11 kc_0 (zr_25 i325_12)))))) (fun h3853 h3855 => zt_callH (zs_32_1 i325_4 na_132 ob_0 rfl) h3855 hd_325_0)) (zm_re zz_01 zz_e zz_e))))))
def F326_0_148 (a b : Int32) (S : zS) : Int32 := (if ((¬ (a < 1)) ∧ (¬ ((S 1 1) < a))) then ((if ((¬ (b < 0)) ∧ (¬ (256 < b))) then ((if ((S 1 6) = 0) then (0 : Int32) else 3) : Int32) else 2) : Int32) else 1)
def G326_0_148 (a b : Int32) (S : zS) : zS := (if ((¬ (a < 1)) ∧ (¬ ((S 1 1) < a))) then (if ((¬ (b < 0)) ∧ (¬ (256 < b))) then (if ((S 1 6) = 0) then (z_up (G88 a b S) 148 0 (F88 a b S)) else S) else S) else S)
def E326_0_148 (a b : Int32) (S : zS) : Nat := (if ((¬ (a < 1)) ∧ (¬ ((S 1 1) < a))) then ((if ((¬ (b < 0)) ∧ (¬ (256 < b))) then ((if ((S 1 6) = 0) then (0 : Nat) else 1) : Nat) else 1) : Nat) else 1)
set_option maxRecDepth 100000 in
theorem E326_0_148_le (a b : Int32) (S : zS) : E326_0_148 a b S ≤ 1 := by unfold E326_0_148; (repeat' split) <;> decide
set_option maxRecDepth 100000 in
theorem f326_0_148 {L : Nat} (a b : Int32) (S : zS) (g0 : zo (S 1 6)) (g1 : ((¬ (a < 1)) ∧ (¬ ((S 1 1) < a))) → ((¬ (b < 0)) ∧ (¬ (256 < b))) → ((S 1 6) = 0) → zx 7 a) (g2 : zn 6 (S 1 1)) : zf L 326 [.inr (.inr 0), .inl a, .inl b, .inr (.inr 148)] S (.inl (some (.inl (F326_0_148 a b S))), (G326_0_148 a b S), (E326_0_148 a b S)) := zf_of (en_326 _ _ _ _) (zr_2_3 i326_0 (zr_0 i326_1 kc_0 (zr_2_0 i326_2 (zr_1_1 i326_3 (zr_1_2 i326_4 (zt_cast (zr_callO (f133 a b S (g0) (fun h3856 h3857 h3858 => (g1 h3856 h3857 h3858)) (g2)) (fun h3859 h3861 => zt_cast (zr_callO h3861 (fun h3863 h3865 => zt_cast (zr_callO h3865 (fun h3867 h3869 => zr_cv (zs_32_2 i326_5 na_133 ob_0 rfl) h3869 (zr_30 i326_6 (zr_31 i326_7 ar_148 (zx_1_0) kt_0 (zr_17 i326_8 (zr_0 i326_18 kc_0 (zr_25 i326_19)))))) (fun h3868 h3870 => zt_callH (zs_32_2 i326_5 na_133 ob_0 rfl) h3870 hd_326_2)) (zm_re zz_e zz_e zz_e)) (fun h3864 h3866 => zt_callH (zs_32_2 i326_5 na_133 ob_0 rfl) h3866 hd_326_1)) (zm_re zz_e zz_e zz_e)) (fun h3860 h3862 => zt_callH (zs_32_2 i326_5 na_133 ob_0 rfl) h3862 hd_326_0)) (zm_re zz_e zz_e zz_e)))))))
def F327_0 (a b c : Int32) (S : zS) : Int32 := (if (((¬ (a < 0)) ∧ (¬ (65535 < a))) ∧ (((¬ (b < 1)) ∧ (¬ (6 < b))) ∧ ((¬ (c < 1)) ∧ (¬ (b < c))))) then ((if (¬ ((S 1 6) = 0)) then (0 : Int32) else 2) : Int32) else 1)
def G327_0 (a b c : Int32) (S : zS) : zS := (if (((¬ (a < 0)) ∧ (¬ (65535 < a))) ∧ (((¬ (b < 1)) ∧ (¬ (6 < b))) ∧ ((¬ (c < 1)) ∧ (¬ (b < c))))) then (if (¬ ((S 1 6) = 0)) then (z_up (z_up (z_up (z_up (z_up (K95_2_S 0 S) 1 5 0) 1 7 1) 1 8 a) 1 9 b) 1 10 c) else S) else S)
def E327_0 (a b c : Int32) (S : zS) : Nat := (if (((¬ (a < 0)) ∧ (¬ (65535 < a))) ∧ (((¬ (b < 1)) ∧ (¬ (6 < b))) ∧ ((¬ (c < 1)) ∧ (¬ (b < c))))) then ((if (¬ ((S 1 6) = 0)) then (0 : Nat) else 1) : Nat) else 1)
set_option maxRecDepth 100000 in
theorem E327_0_le (a b c : Int32) (S : zS) : E327_0 a b c S ≤ 1 := by unfold E327_0; (repeat' split) <;> decide
set_option maxRecDepth 100000 in
theorem f327_0 {L : Nat} (a b c : Int32) (S : zS) (g0 : zo (S 1 6)) : zf L 327 [.inr (.inr 0), .inl a, .inl b, .inl c] S (.inl (some (.inl (F327_0 a b c S))), (G327_0 a b c S), (E327_0 a b c S)) := zf_of (en_327 _ _ _ _) (zr_2_0 i327_0 (zr_1_1 i327_1 (zr_1_2 i327_2 (zr_1_3 i327_3 (zt_cast (zr_callO (f136 a b c S (g0)) (fun h3871 h3873 => zt_cast (zr_callO h3873 (fun h3875 h3877 => zr_cn (zs_32_3 i327_4 na_136 ob_0 rfl) h3877 (zr_17 i327_5 (zr_0 i327_12 kc_0 (zr_25 i327_13)))) (fun h3876 h3878 => zt_callH (zs_32_3 i327_4 na_136 ob_0 rfl) h3878 hd_327_2)) (zm_re zz_e zz_e zz_e)) (fun h3872 h3874 => zt_callH (zs_32_3 i327_4 na_136 ob_0 rfl) h3874 hd_327_1)) (zm_re zz_e zz_e zz_e))))))
def F328_0_148 (a b : Int32) (S : zS) : Int32 := (if ((¬ (a < 1)) ∧ (¬ ((S 1 1) < a))) then ((if ((¬ (b < 0)) ∧ (¬ (256 < b))) then ((if (¬ ((S 1 7) = 0)) then (0 : Int32) else 3) : Int32) else 2) : Int32) else 1)
def G328_0_148 (a b : Int32) (S : zS) : zS := (if ((¬ (a < 1)) ∧ (¬ ((S 1 1) < a))) then (if ((¬ (b < 0)) ∧ (¬ (256 < b))) then (if (¬ ((S 1 7) = 0)) then (z_up (G90 a b S) 148 0 (F90 a b S)) else S) else S) else S)
def E328_0_148 (a b : Int32) (S : zS) : Nat := (if ((¬ (a < 1)) ∧ (¬ ((S 1 1) < a))) then ((if ((¬ (b < 0)) ∧ (¬ (256 < b))) then ((if (¬ ((S 1 7) = 0)) then (0 : Nat) else 1) : Nat) else 1) : Nat) else 1)
set_option maxRecDepth 100000 in
theorem E328_0_148_le (a b : Int32) (S : zS) : E328_0_148 a b S ≤ 1 := by unfold E328_0_148; (repeat' split) <;> decide
set_option maxRecDepth 100000 in
theorem f328_0_148 {L : Nat} (a b : Int32) (S : zS) (g0 : zo (S 1 7)) (g1 : ((¬ (a < 1)) ∧ (¬ ((S 1 1) < a))) → ((¬ (b < 0)) ∧ (¬ (256 < b))) → (¬ ((S 1 7) = 0)) → zx 7 a) (g2 : zn 6 (S 1 1)) (g3 : ((¬ (a < 1)) ∧ (¬ ((S 1 1) < a))) → ((¬ (b < 0)) ∧ (¬ (256 < b))) → (¬ ((S 1 7) = 0)) → ((S 1 2) ≤ ((if ((S 15 a.toNatClampNeg) = (-1)) then (z_up S 1 5 ((S 1 5) + 1)) else S) 1 5)) → ((K96_4_c1 0 1 (z_up (if ((S 15 a.toNatClampNeg) = (-1)) then (z_up S 1 5 ((S 1 5) + 1)) else S) 15 a.toNatClampNeg b)) = (S 1 0)) → zn 6 ((z_up (if (((z_up (z_up (K95_2_S 0 (z_up (if ((S 15 a.toNatClampNeg) = (-1)) then (z_up S 1 5 ((S 1 5) + 1)) else S) 15 a.toNatClampNeg b)) 1 5 0) 1 7 0) 1 0) = (-1)) then (z_up (z_up (z_up (K95_2_S 0 (z_up (if ((S 15 a.toNatClampNeg) = (-1)) then (z_up S 1 5 ((S 1 5) + 1)) else S) 15 a.toNatClampNeg b)) 1 5 0) 1 7 0) 1 0 (zrem (zrem ((1103 * ((K95_2_S 0 (z_up (if ((S 15 a.toNatClampNeg) = (-1)) then (z_up S 1 5 ((S 1 5) + 1)) else S) 15 a.toNatClampNeg b)) 1 8)) + 12345) 65536) 257)) else (z_up (z_up (K95_2_S 0 (z_up (if ((S 15 a.toNatClampNeg) = (-1)) then (z_up S 1 5 ((S 1 5) + 1)) else S) 15 a.toNatClampNeg b)) 1 5 0) 1 7 0)) 1 1 ((K95_2_S 0 (z_up (if ((S 15 a.toNatClampNeg) = (-1)) then (z_up S 1 5 ((S 1 5) + 1)) else S) 15 a.toNatClampNeg b)) 1 9)) 1 1)) (g4 : ((¬ (a < 1)) ∧ (¬ ((S 1 1) < a))) → ((¬ (b < 0)) ∧ (¬ (256 < b))) → (¬ ((S 1 7) = 0)) → ((S 1 2) ≤ ((if ((S 15 a.toNatClampNeg) = (-1)) then (z_up S 1 5 ((S 1 5) + 1)) else S) 1 5)) → ((K96_4_c1 0 1 (z_up (if ((S 15 a.toNatClampNeg) = (-1)) then (z_up S 1 5 ((S 1 5) + 1)) else S) 15 a.toNatClampNeg b)) = (S 1 0)) → zn 6 ((z_up (z_up (if (((z_up (z_up (K95_2_S 0 (z_up (if ((S 15 a.toNatClampNeg) = (-1)) then (z_up S 1 5 ((S 1 5) + 1)) else S) 15 a.toNatClampNeg b)) 1 5 0) 1 7 0) 1 0) = (-1)) then (z_up (z_up (z_up (K95_2_S 0 (z_up (if ((S 15 a.toNatClampNeg) = (-1)) then (z_up S 1 5 ((S 1 5) + 1)) else S) 15 a.toNatClampNeg b)) 1 5 0) 1 7 0) 1 0 (zrem (zrem ((1103 * ((K95_2_S 0 (z_up (if ((S 15 a.toNatClampNeg) = (-1)) then (z_up S 1 5 ((S 1 5) + 1)) else S) 15 a.toNatClampNeg b)) 1 8)) + 12345) 65536) 257)) else (z_up (z_up (K95_2_S 0 (z_up (if ((S 15 a.toNatClampNeg) = (-1)) then (z_up S 1 5 ((S 1 5) + 1)) else S) 15 a.toNatClampNeg b)) 1 5 0) 1 7 0)) 1 1 ((K95_2_S 0 (z_up (if ((S 15 a.toNatClampNeg) = (-1)) then (z_up S 1 5 ((S 1 5) + 1)) else S) 15 a.toNatClampNeg b)) 1 9)) 1 2 ((K95_2_S 0 (z_up (if ((S 15 a.toNatClampNeg) = (-1)) then (z_up S 1 5 ((S 1 5) + 1)) else S) 15 a.toNatClampNeg b)) 1 10)) 1 2)) : zf L 328 [.inr (.inr 0), .inl a, .inl b, .inr (.inr 148)] S (.inl (some (.inl (F328_0_148 a b S))), (G328_0_148 a b S), (E328_0_148 a b S)) := zf_of (en_328 _ _ _ _) (zr_2_3 i328_0 (zr_0 i328_1 kc_0 (zr_2_0 i328_2 (zr_1_1 i328_3 (zr_1_2 i328_4 (zt_cast (zr_callO (f137 a b S (g0) (fun h3879 h3880 h3881 => (g1 h3879 h3880 h3881)) (g2) (fun h3882 h3883 h3884 h3885 h3886 => (g3 h3882 h3883 h3884 h3885 h3886)) (fun h3887 h3888 h3889 h3890 h3891 => (g4 h3887 h3888 h3889 h3890 h3891))) (fun h3892 h3894 => zt_cast (zr_callO h3894 (fun h3896 h3898 => zt_cast (zr_callO h3898 (fun h3900 h3902 => zr_cv (zs_32_2 i328_5 na_137 ob_0 rfl) h3902 (zr_30 i328_6 (zr_31 i328_7 ar_148 (zx_1_0) kt_0 (zr_17 i328_8 (zr_0 i328_18 kc_0 (zr_25 i328_19)))))) (fun h3901 h3903 => zt_callH (zs_32_2 i328_5 na_137 ob_0 rfl) h3903 hd_328_2)) (zm_re zz_e zz_e zz_e)) (fun h3897 h3899 => zt_callH (zs_32_2 i328_5 na_137 ob_0 rfl) h3899 hd_328_1)) (zm_re zz_e zz_e zz_e)) (fun h3893 h3895 => zt_callH (zs_32_2 i328_5 na_137 ob_0 rfl) h3895 hd_328_0)) (zm_re zz_e zz_e zz_e)))))))
def F329_0 (a b : Int32) (S : zS) : Int32 := (zb (¬ (((¬ (a < 1)) ∧ (¬ (1000 < a))) ∧ ((¬ (b < 1)) ∧ (¬ (1000 < b))))))
def G329_0 (a b : Int32) (S : zS) : zS := (if (((¬ (a < 1)) ∧ (¬ (1000 < a))) ∧ ((¬ (b < 1)) ∧ (¬ (1000 < b)))) then (z_up (z_up S 2 4 a) 2 5 b) else S)
def E329_0 (a b : Int32) (S : zS) : Nat := (if (((¬ (a < 1)) ∧ (¬ (1000 < a))) ∧ ((¬ (b < 1)) ∧ (¬ (1000 < b)))) then (0 : Nat) else 1)
set_option maxRecDepth 100000 in
theorem E329_0_le (a b : Int32) (S : zS) : E329_0 a b S ≤ 1 := by unfold E329_0; (repeat' split) <;> decide
set_option maxRecDepth 100000 in
theorem f329_0 {L : Nat} (a b : Int32) (S : zS) : zf L 329 [.inr (.inr 0), .inl a, .inl b] S (.inl (some (.inl (F329_0 a b S))), (G329_0 a b S), (E329_0 a b S)) := zf_of (en_329 _ _ _) (zr_2_0 i329_0 (zr_1_1 i329_1 (zr_1_2 i329_2 (zt_cast (zr_callO (f138 a b S ) (fun h3904 h3906 => zr_cn (zs_32_2 i329_3 na_138 ob_0 rfl) h3906 (zr_17 i329_4 (zr_0 i329_8 kc_0 (zr_25 i329_9)))) (fun h3905 h3907 => zt_callH (zs_32_2 i329_3 na_138 ob_0 rfl) h3907 hd_329_1)) (zm_re zz_01 zz_e zz_e)))))
def F330_0_148 (a : Int32) (S : zS) : Int32 := (zb (¬ ((¬ (a < (S 2 3))) ∧ (¬ ((S 2 0) < a)))))
def G330_0_148 (a : Int32) (S : zS) : zS := (if ((¬ (a < (S 2 3))) ∧ (¬ ((S 2 0) < a))) then (z_up (z_up S 2 3 a) 148 0 (S 2 3)) else S)
def E330_0_148 (a : Int32) (S : zS) : Nat := (if ((¬ (a < (S 2 3))) ∧ (¬ ((S 2 0) < a))) then (0 : Nat) else 1)
set_option maxRecDepth 100000 in
theorem E330_0_148_le (a : Int32) (S : zS) : E330_0_148 a S ≤ 1 := by unfold E330_0_148; (repeat' split) <;> decide
set_option maxRecDepth 100000 in
theorem f330_0_148 {L : Nat} (a : Int32) (S : zS) : zf L 330 [.inr (.inr 0), .inl a, .inr (.inr 148)] S (.inl (some (.inl (F330_0_148 a S))), (G330_0_148 a S), (E330_0_148 a S)) := zf_of (en_330 _ _ _) (zr_2_2 i330_0 (zr_0 i330_1 kc_0 (zr_2_0 i330_2 (zr_1_1 i330_3 (zt_cast (zr_callO (f140 a S ) (fun h3908 h3910 => zr_cv (zs_32_1 i330_4 na_140 ob_0 rfl) h3910 (zr_30 i330_5 (zr_31 i330_6 ar_148 (zx_1_0) kt_0 (zr_17 i330_7 (zr_0 i330_11 kc_0 (zr_25 i330_12)))))) (fun h3909 h3911 => zt_callH (zs_32_1 i330_4 na_140 ob_0 rfl) h3911 hd_330_1)) (zm_re zz_01 zz_e zz_e))))))
def F331_0_148 (a : Int32) (S : zS) : Int32 := (if ((¬ (a < 1)) ∧ (¬ (50 < a))) then ((if (¬ ((S 1 6) = 0)) then (0 : Int32) else 2) : Int32) else 1)
def G331_0_148 (a : Int32) (S : zS) : zS := (if ((¬ (a < 1)) ∧ (¬ (50 < a))) then (if (¬ ((S 1 6) = 0)) then (z_up (K112_7_2_7_S a (S 0 11) (S 2 0) 0 (none : Option zV) (none : Option zV) 0 S) 148 0 (K112_7_2_7_c5 a (S 0 11) (S 2 0) 0 (none : Option zV) (none : Option zV) 0 S)) else S) else S)
def E331_0_148 (a : Int32) (S : zS) : Nat := (if ((¬ (a < 1)) ∧ (¬ (50 < a))) then ((if (¬ ((S 1 6) = 0)) then (0 : Nat) else 1) : Nat) else 1)
set_option maxRecDepth 100000 in
theorem E331_0_148_le (a : Int32) (S : zS) : E331_0_148 a S ≤ 1 := by unfold E331_0_148; (repeat' split) <;> decide
set_option maxRecDepth 100000 in
theorem f331_0_148 {L : Nat} (a : Int32) (S : zS) (g0 : zo (S 1 6)) (g1 : zLa (S 51)) : zf L 331 [.inr (.inr 0), .inl a, .inr (.inr 148)] S (.inl (some (.inl (F331_0_148 a S))), (G331_0_148 a S), (E331_0_148 a S)) := zf_of (en_331 _ _ _) (zr_2_2 i331_0 (zr_0 i331_1 kc_0 (zr_2_0 i331_2 (zr_1_1 i331_3 (zt_cast (zr_callO (f141 a S (g0) (g1)) (fun h3912 h3914 => zt_cast (zr_callO h3914 (fun h3916 h3918 => zr_cv (zs_32_1 i331_4 na_141 ob_0 rfl) h3918 (zr_30 i331_5 (zr_31 i331_6 ar_148 (zx_1_0) kt_0 (zr_17 i331_7 (zr_0 i331_14 kc_0 (zr_25 i331_15)))))) (fun h3917 h3919 => zt_callH (zs_32_1 i331_4 na_141 ob_0 rfl) h3919 hd_331_2)) (zm_re zz_e zz_e zz_e)) (fun h3913 h3915 => zt_callH (zs_32_1 i331_4 na_141 ob_0 rfl) h3915 hd_331_1)) (zm_re zz_e zz_e zz_e))))))
def F332_0 (a b c : Int32) (S : zS) : Int32 := (if (((¬ (a < 0)) ∧ (¬ (6 ≤ a))) ∧ (((¬ (b < (-1))) ∧ (¬ (2 < b))) ∧ ((¬ (c < 0)) ∧ (¬ ((if (b = 1) then (2 : Int32) else 0) < c))))) then ((if ((zb (b = (-1))) = (zb (¬ ((S 16 a.toNatClampNeg) = (-1))))) then (0 : Int32) else 2) : Int32) else 1)
def G332_0 (a b c : Int32) (S : zS) : zS := (if (((¬ (a < 0)) ∧ (¬ (6 ≤ a))) ∧ (((¬ (b < (-1))) ∧ (¬ (2 < b))) ∧ ((¬ (c < 0)) ∧ (¬ ((if (b = 1) then (2 : Int32) else 0) < c))))) then (if ((zb (b = (-1))) = (zb (¬ ((S 16 a.toNatClampNeg) = (-1))))) then (if (b = (-1)) then (G209 a (z_up (z_up S 16 a.toNatClampNeg b) 17 a.toNatClampNeg c)) else (z_up (z_up S 16 a.toNatClampNeg b) 17 a.toNatClampNeg c)) else S) else S)
def E332_0 (a b c : Int32) (S : zS) : Nat := (if (((¬ (a < 0)) ∧ (¬ (6 ≤ a))) ∧ (((¬ (b < (-1))) ∧ (¬ (2 < b))) ∧ ((¬ (c < 0)) ∧ (¬ ((if (b = 1) then (2 : Int32) else 0) < c))))) then ((if ((zb (b = (-1))) = (zb (¬ ((S 16 a.toNatClampNeg) = (-1))))) then (0 : Nat) else 1) : Nat) else 1)
set_option maxRecDepth 100000 in
theorem E332_0_le (a b c : Int32) (S : zS) : E332_0 a b c S ≤ 1 := by unfold E332_0; (repeat' split) <;> decide
set_option maxRecDepth 100000 in
theorem f332_0 {L : Nat} (a b c : Int32) (S : zS) (g0 : (((¬ (a < 0)) ∧ (¬ (6 ≤ a))) ∧ (((¬ (b < (-1))) ∧ (¬ (2 < b))) ∧ ((¬ (c < 0)) ∧ (¬ ((if (b = 1) then (2 : Int32) else 0) < c))))) → zx 6 a) (g1 : (((¬ (a < 0)) ∧ (¬ (6 ≤ a))) ∧ (((¬ (b < (-1))) ∧ (¬ (2 < b))) ∧ ((¬ (c < 0)) ∧ (¬ ((if (b = 1) then (2 : Int32) else 0) < c))))) → ((zb (b = (-1))) = (zb (¬ ((S 16 a.toNatClampNeg) = (-1))))) → (b = (-1)) → zn 216 ((a * 36) + 36)) (g2 : (((¬ (a < 0)) ∧ (¬ (6 ≤ a))) ∧ (((¬ (b < (-1))) ∧ (¬ (2 < b))) ∧ ((¬ (c < 0)) ∧ (¬ ((if (b = 1) then (2 : Int32) else 0) < c))))) → ((zb (b = (-1))) = (zb (¬ ((S 16 a.toNatClampNeg) = (-1))))) → (b = (-1)) → zn 10000 (a * 36)) (g3 : zn 512 (S 8 5)) (g4 : zn 2048 (S 8 6)) (g5 : zn 10000 (S 8 6)) (g6 : zn 40 (S 6 0)) (g7 : zA 40 3 (S 43)) (g8 : zn 20 (S 10 4)) : zf L 332 [.inr (.inr 0), .inl a, .inl b, .inl c] S (.inl (some (.inl (F332_0 a b c S))), (G332_0 a b c S), (E332_0 a b c S)) := zf_of (en_332 _ _ _ _) (zr_2_0 i332_0 (zr_1_1 i332_1 (zr_1_2 i332_2 (zr_1_3 i332_3 (zt_cast (zr_callO (f143 a b c S (fun h3920 => (g0 h3920)) (fun h3921 h3922 h3923 => (g1 h3921 h3922 h3923)) (fun h3924 h3925 h3926 => (g2 h3924 h3925 h3926)) (g3) (g4) (g5) (g6) (g7) (g8)) (fun h3927 h3929 => zt_cast (zr_callO h3929 (fun h3931 h3933 => zr_cn (zs_32_3 i332_4 na_143 ob_0 rfl) h3933 (zr_17 i332_5 (zr_0 i332_12 kc_0 (zr_25 i332_13)))) (fun h3932 h3934 => zt_callH (zs_32_3 i332_4 na_143 ob_0 rfl) h3934 hd_332_2)) (zm_re zz_e zz_e zz_e)) (fun h3928 h3930 => zt_callH (zs_32_3 i332_4 na_143 ob_0 rfl) h3930 hd_332_1)) (zm_re zz_e zz_e zz_e))))))
def F333_0_148 (a b : Int32) (S : zS) : Int32 := (zb (¬ (((¬ (a < 0)) ∧ (¬ (6 ≤ a))) ∧ ((¬ (b < 0)) ∧ (¬ (100 < b))))))
def G333_0_148 (a b : Int32) (S : zS) : zS := (if (((¬ (a < 0)) ∧ (¬ (6 ≤ a))) ∧ ((¬ (b < 0)) ∧ (¬ (100 < b)))) then (z_up (z_up S 18 a.toNatClampNeg b) 148 0 (S 18 a.toNatClampNeg)) else S)
def E333_0_148 (a b : Int32) (S : zS) : Nat := (if (((¬ (a < 0)) ∧ (¬ (6 ≤ a))) ∧ ((¬ (b < 0)) ∧ (¬ (100 < b)))) then (0 : Nat) else 1)
set_option maxRecDepth 100000 in
theorem E333_0_148_le (a b : Int32) (S : zS) : E333_0_148 a b S ≤ 1 := by unfold E333_0_148; (repeat' split) <;> decide
set_option maxRecDepth 100000 in
theorem f333_0_148 {L : Nat} (a b : Int32) (S : zS) (g0 : (((¬ (a < 0)) ∧ (¬ (6 ≤ a))) ∧ ((¬ (b < 0)) ∧ (¬ (100 < b)))) → zx 6 a) : zf L 333 [.inr (.inr 0), .inl a, .inl b, .inr (.inr 148)] S (.inl (some (.inl (F333_0_148 a b S))), (G333_0_148 a b S), (E333_0_148 a b S)) := zf_of (en_333 _ _ _ _) (zr_2_3 i333_0 (zr_0 i333_1 kc_0 (zr_2_0 i333_2 (zr_1_1 i333_3 (zr_1_2 i333_4 (zt_cast (zr_callO (f144 a b S (fun h3935 => (g0 h3935))) (fun h3936 h3938 => zr_cv (zs_32_2 i333_5 na_144 ob_0 rfl) h3938 (zr_30 i333_6 (zr_31 i333_7 ar_148 (zx_1_0) kt_0 (zr_17 i333_8 (zr_0 i333_12 kc_0 (zr_25 i333_13)))))) (fun h3937 h3939 => zt_callH (zs_32_2 i333_5 na_144 ob_0 rfl) h3939 hd_333_1)) (zm_re zz_01 zz_e zz_e)))))))
def F334_0_148 (a b c d e f : Int32) (S : zS) : Int32 := (if ((¬ (a < 0)) ∧ (¬ (8 ≤ a))) then ((if (((¬ (b < 0)) ∧ (¬ (8 < b))) ∧ (((¬ (c < 0)) ∧ (¬ (8 < c))) ∧ ((¬ (d < 0)) ∧ (¬ (8 < d))))) then ((if (((¬ (e < 0)) ∧ (¬ (15 < e))) ∧ ((¬ (f < 0)) ∧ (¬ (2 < f)))) then ((if (¬ (5 ≤ (S 20 a.toNatClampNeg))) then (0 : Int32) else 3) : Int32) else 2) : Int32) else 2) : Int32) else 1)
def G334_0_148 (a b c d e f : Int32) (S : zS) : zS := (if ((¬ (a < 0)) ∧ (¬ (8 ≤ a))) then (if (((¬ (b < 0)) ∧ (¬ (8 < b))) ∧ (((¬ (c < 0)) ∧ (¬ (8 < c))) ∧ ((¬ (d < 0)) ∧ (¬ (8 < d))))) then (if (((¬ (e < 0)) ∧ (¬ (15 < e))) ∧ ((¬ (f < 0)) ∧ (¬ (2 < f)))) then (if (¬ (5 ≤ (S 20 a.toNatClampNeg))) then (z_up (G62 a b c d e f S) 148 0 ((S 20 a.toNatClampNeg) + 1)) else S) else S) else S) else S)
def E334_0_148 (a b c d e f : Int32) (S : zS) : Nat := (if ((¬ (a < 0)) ∧ (¬ (8 ≤ a))) then ((if (((¬ (b < 0)) ∧ (¬ (8 < b))) ∧ (((¬ (c < 0)) ∧ (¬ (8 < c))) ∧ ((¬ (d < 0)) ∧ (¬ (8 < d))))) then ((if (((¬ (e < 0)) ∧ (¬ (15 < e))) ∧ ((¬ (f < 0)) ∧ (¬ (2 < f)))) then ((if (¬ (5 ≤ (S 20 a.toNatClampNeg))) then (0 : Nat) else 1) : Nat) else 1) : Nat) else 1) : Nat) else 1)
set_option maxRecDepth 100000 in
theorem E334_0_148_le (a b c d e f : Int32) (S : zS) : E334_0_148 a b c d e f S ≤ 1 := by unfold E334_0_148; (repeat' split) <;> decide
set_option maxRecDepth 100000 in
theorem f334_0_148 {L : Nat} (a b c d e f : Int32) (S : zS) (g0 : ((¬ (a < 0)) ∧ (¬ (8 ≤ a))) → (((¬ (b < 0)) ∧ (¬ (8 < b))) ∧ (((¬ (c < 0)) ∧ (¬ (8 < c))) ∧ ((¬ (d < 0)) ∧ (¬ (8 < d))))) → (((¬ (e < 0)) ∧ (¬ (15 < e))) ∧ ((¬ (f < 0)) ∧ (¬ (2 < f)))) → zx 8 a) (g1 : ((¬ (a < 0)) ∧ (¬ (8 ≤ a))) → (((¬ (b < 0)) ∧ (¬ (8 < b))) ∧ (((¬ (c < 0)) ∧ (¬ (8 < c))) ∧ ((¬ (d < 0)) ∧ (¬ (8 < d))))) → (((¬ (e < 0)) ∧ (¬ (15 < e))) ∧ ((¬ (f < 0)) ∧ (¬ (2 < f)))) → (¬ (5 ≤ (S 20 a.toNatClampNeg))) → zx 120 (((a * 5) + (S 20 a.toNatClampNeg)) * 3)) (g2 : ((¬ (a < 0)) ∧ (¬ (8 ≤ a))) → (((¬ (b < 0)) ∧ (¬ (8 < b))) ∧ (((¬ (c < 0)) ∧ (¬ (8 < c))) ∧ ((¬ (d < 0)) ∧ (¬ (8 < d))))) → (((¬ (e < 0)) ∧ (¬ (15 < e))) ∧ ((¬ (f < 0)) ∧ (¬ (2 < f)))) → (¬ (5 ≤ (S 20 a.toNatClampNeg))) → zx 120 ((((a * 5) + (S 20 a.toNatClampNeg)) * 3) + 1)) (g3 : ((¬ (a < 0)) ∧ (¬ (8 ≤ a))) → (((¬ (b < 0)) ∧ (¬ (8 < b))) ∧ (((¬ (c < 0)) ∧ (¬ (8 < c))) ∧ ((¬ (d < 0)) ∧ (¬ (8 < d))))) → (((¬ (e < 0)) ∧ (¬ (15 < e))) ∧ ((¬ (f < 0)) ∧ (¬ (2 < f)))) → (¬ (5 ≤ (S 20 a.toNatClampNeg))) → zx 120 ((((a * 5) + (S 20 a.toNatClampNeg)) * 3) + 2)) (g4 : ((¬ (a < 0)) ∧ (¬ (8 ≤ a))) → (((¬ (b < 0)) ∧ (¬ (8 < b))) ∧ (((¬ (c < 0)) ∧ (¬ (8 < c))) ∧ ((¬ (d < 0)) ∧ (¬ (8 < d))))) → (((¬ (e < 0)) ∧ (¬ (15 < e))) ∧ ((¬ (f < 0)) ∧ (¬ (2 < f)))) → (¬ (5 ≤ (S 20 a.toNatClampNeg))) → zx 40 ((a * 5) + (S 20 a.toNatClampNeg))) : zf L 334 [.inr (.inr 0), .inl a, .inl b, .inl c, .inl d, .inl e, .inl f, .inr (.inr 148)] S (.inl (some (.inl (F334_0_148 a b c d e f S))), (G334_0_148 a b c d e f S), (E334_0_148 a b c d e f S)) := zf_of (en_334 _ _ _ _ _ _ _ _) (zr_2_7 i334_0 (zr_0 i334_1 kc_0 (zr_2_0 i334_2 (zr_1_1 i334_3 (zr_1_2 i334_4 (zr_1_3 i334_5 (zr_1_4 i334_6 (zr_1_5 i334_7 (zr_1_6 i334_8 (zt_cast (zr_callO (f145 a b c d e f S (fun h3940 h3941 h3942 => (g0 h3940 h3941 h3942)) (fun h3943 h3944 h3945 h3946 => (g1 h3943 h3944 h3945 h3946)) (fun h3947 h3948 h3949 h3950 => (g2 h3947 h3948 h3949 h3950)) (fun h3951 h3952 h3953 h3954 => (g3 h3951 h3952 h3953 h3954)) (fun h3955 h3956 h3957 h3958 => (g4 h3955 h3956 h3957 h3958))) (fun h3959 h3961 => zt_cast (zr_callO h3961 (fun h3963 h3965 => zt_cast (zr_callO h3965 (fun h3967 h3969 => zt_cast (zr_callO h3969 (fun h3971 h3973 => zr_cv (zs_32_6 i334_9 na_145 ob_0 rfl) h3973 (zr_30 i334_10 (zr_31 i334_11 ar_148 (zx_1_0) kt_0 (zr_17 i334_12 (zr_0 i334_22 kc_0 (zr_25 i334_23)))))) (fun h3972 h3974 => zt_callH (zs_32_6 i334_9 na_145 ob_0 rfl) h3974 hd_334_2)) (zm_re zz_e zz_e zz_e)) (fun h3968 h3970 => zt_callH (zs_32_6 i334_9 na_145 ob_0 rfl) h3970 hd_334_1)) (zm_re zz_e zz_e zz_e)) (fun h3964 h3966 => zt_callH (zs_32_6 i334_9 na_145 ob_0 rfl) h3966 hd_334_1)) (zm_re zz_e zz_e zz_e)) (fun h3960 h3962 => zt_callH (zs_32_6 i334_9 na_145 ob_0 rfl) h3962 hd_334_0)) (zm_re zz_e zz_e zz_e)))))))))))
def F335_0_148 (a : Int32) (S : zS) : Int32 := (zb (¬ ((¬ (a < 0)) ∧ (¬ (8 ≤ a)))))
def G335_0_148 (a : Int32) (S : zS) : zS := (if ((¬ (a < 0)) ∧ (¬ (8 ≤ a))) then (z_up (z_up S 20 a.toNatClampNeg 0) 148 0 (S 20 a.toNatClampNeg)) else S)
def E335_0_148 (a : Int32) (S : zS) : Nat := (if ((¬ (a < 0)) ∧ (¬ (8 ≤ a))) then (0 : Nat) else 1)
set_option maxRecDepth 100000 in
theorem E335_0_148_le (a : Int32) (S : zS) : E335_0_148 a S ≤ 1 := by unfold E335_0_148; (repeat' split) <;> decide
set_option maxRecDepth 100000 in
theorem f335_0_148 {L : Nat} (a : Int32) (S : zS) (g0 : ((¬ (a < 0)) ∧ (¬ (8 ≤ a))) → zx 8 a) : zf L 335 [.inr (.inr 0), .inl a, .inr (.inr 148)] S (.inl (some (.inl (F335_0_148 a S))), (G335_0_148 a S), (E335_0_148 a S)) := zf_of (en_335 _ _ _) (zr_2_2 i335_0 (zr_0 i335_1 kc_0 (zr_2_0 i335_2 (zr_1_1 i335_3 (zt_cast (zr_callO (f146 a S (fun h3975 => (g0 h3975))) (fun h3976 h3978 => zr_cv (zs_32_1 i335_4 na_146 ob_0 rfl) h3978 (zr_30 i335_5 (zr_31 i335_6 ar_148 (zx_1_0) kt_0 (zr_17 i335_7 (zr_0 i335_11 kc_0 (zr_25 i335_12)))))) (fun h3977 h3979 => zt_callH (zs_32_1 i335_4 na_146 ob_0 rfl) h3979 hd_335_0)) (zm_re zz_01 zz_e zz_e))))))
def F336_0_148 (a b c : Int32) (S : zS) : Int32 := (if ((¬ ((¬ (a < 0)) ∧ (¬ (2 < a)))) ∨ ((¬ (b < 0)) ∧ (¬ ((if (a = 0) then (3 : Int32) else (if (a = 1) then (8 : Int32) else 4)) ≤ b)))) then ((if (((¬ (a < 0)) ∧ (¬ (2 < a))) ∧ ((¬ (c < 0)) ∧ (¬ (255 < c)))) then (0 : Int32) else 2) : Int32) else 1)
def G336_0_148 (a b c : Int32) (S : zS) : zS := (if ((¬ ((¬ (a < 0)) ∧ (¬ (2 < a)))) ∨ ((¬ (b < 0)) ∧ (¬ ((if (a = 0) then (3 : Int32) else (if (a = 1) then (8 : Int32) else 4)) ≤ b)))) then (if (((¬ (a < 0)) ∧ (¬ (2 < a))) ∧ ((¬ (c < 0)) ∧ (¬ (255 < c)))) then (z_up (if (a = 0) then (z_up S 25 b.toNatClampNeg c) else (if (a = 1) then (z_up S 26 b.toNatClampNeg c) else (z_up S 27 b.toNatClampNeg c))) 148 0 (if (a = 0) then ((S 25 b.toNatClampNeg) : Int32) else (if (a = 1) then ((S 26 b.toNatClampNeg) : Int32) else (S 27 b.toNatClampNeg)))) else S) else S)
def E336_0_148 (a b c : Int32) (S : zS) : Nat := (if ((¬ ((¬ (a < 0)) ∧ (¬ (2 < a)))) ∨ ((¬ (b < 0)) ∧ (¬ ((if (a = 0) then (3 : Int32) else (if (a = 1) then (8 : Int32) else 4)) ≤ b)))) then ((if (((¬ (a < 0)) ∧ (¬ (2 < a))) ∧ ((¬ (c < 0)) ∧ (¬ (255 < c)))) then (0 : Nat) else 1) : Nat) else 1)
set_option maxRecDepth 100000 in
theorem E336_0_148_le (a b c : Int32) (S : zS) : E336_0_148 a b c S ≤ 1 := by unfold E336_0_148; (repeat' split) <;> decide
set_option maxRecDepth 100000 in
theorem f336_0_148 {L : Nat} (a b c : Int32) (S : zS) (g0 : ((¬ ((¬ (a < 0)) ∧ (¬ (2 < a)))) ∨ ((¬ (b < 0)) ∧ (¬ ((if (a = 0) then (3 : Int32) else (if (a = 1) then (8 : Int32) else 4)) ≤ b)))) → (((¬ (a < 0)) ∧ (¬ (2 < a))) ∧ ((¬ (c < 0)) ∧ (¬ (255 < c)))) → (a = 0) → zx 3 b) (g1 : ((¬ ((¬ (a < 0)) ∧ (¬ (2 < a)))) ∨ ((¬ (b < 0)) ∧ (¬ ((if (a = 0) then (3 : Int32) else (if (a = 1) then (8 : Int32) else 4)) ≤ b)))) → (((¬ (a < 0)) ∧ (¬ (2 < a))) ∧ ((¬ (c < 0)) ∧ (¬ (255 < c)))) → (¬ (a = 0)) → (a = 1) → zx 8 b) (g2 : ((¬ ((¬ (a < 0)) ∧ (¬ (2 < a)))) ∨ ((¬ (b < 0)) ∧ (¬ ((if (a = 0) then (3 : Int32) else (if (a = 1) then (8 : Int32) else 4)) ≤ b)))) → (((¬ (a < 0)) ∧ (¬ (2 < a))) ∧ ((¬ (c < 0)) ∧ (¬ (255 < c)))) → (¬ (a = 0)) → (¬ (a = 1)) → zx 4 b) : zf L 336 [.inr (.inr 0), .inl a, .inl b, .inl c, .inr (.inr 148)] S (.inl (some (.inl (F336_0_148 a b c S))), (G336_0_148 a b c S), (E336_0_148 a b c S)) := zf_of (en_336 _ _ _ _ _) (zr_2_4 i336_0 (zr_0 i336_1 kc_0 (zr_2_0 i336_2 (zr_1_1 i336_3 (zr_1_2 i336_4 (zr_1_3 i336_5 (zt_cast (zr_callO (f147 a b c S (fun h3980 h3981 h3982 => (g0 h3980 h3981 h3982)) (fun h3983 h3984 h3985 h3986 => (g1 h3983 h3984 h3985 h3986)) (fun h3987 h3988 h3989 h3990 => (g2 h3987 h3988 h3989 h3990))) (fun h3991 h3993 => zt_cast (zr_callO h3993 (fun h3995 h3997 => zr_cv (zs_32_3 i336_6 na_147 ob_0 rfl) h3997 (zr_30 i336_7 (zr_31 i336_8 ar_148 (zx_1_0) kt_0 (zr_17 i336_9 (zr_0 i336_16 kc_0 (zr_25 i336_17)))))) (fun h3996 h3998 => zt_callH (zs_32_3 i336_6 na_147 ob_0 rfl) h3998 hd_336_1)) (zm_re zz_e zz_e zz_e)) (fun h3992 h3994 => zt_callH (zs_32_3 i336_6 na_147 ob_0 rfl) h3994 hd_336_0)) (zm_re zz_e zz_e zz_e))))))))
def F337_0_148 (a b c : Int32) (S : zS) : Int32 := (zb (¬ (((¬ (a < 0)) ∧ (¬ (3 ≤ a))) ∧ (((¬ (b < 0)) ∧ (¬ (6 ≤ b))) ∧ ((¬ (c < (-1))) ∧ (¬ (7 < c)))))))
def G337_0_148 (a b c : Int32) (S : zS) : zS := (if (((¬ (a < 0)) ∧ (¬ (3 ≤ a))) ∧ (((¬ (b < 0)) ∧ (¬ (6 ≤ b))) ∧ ((¬ (c < (-1))) ∧ (¬ (7 < c))))) then (z_up (z_up S 24 ((a * 6) + b).toNatClampNeg c) 148 0 (S 24 ((a * 6) + b).toNatClampNeg)) else S)
def E337_0_148 (a b c : Int32) (S : zS) : Nat := (if (((¬ (a < 0)) ∧ (¬ (3 ≤ a))) ∧ (((¬ (b < 0)) ∧ (¬ (6 ≤ b))) ∧ ((¬ (c < (-1))) ∧ (¬ (7 < c))))) then (0 : Nat) else 1)
set_option maxRecDepth 100000 in
theorem E337_0_148_le (a b c : Int32) (S : zS) : E337_0_148 a b c S ≤ 1 := by unfold E337_0_148; (repeat' split) <;> decide
set_option maxRecDepth 100000 in
theorem f337_0_148 {L : Nat} (a b c : Int32) (S : zS) (g0 : (((¬ (a < 0)) ∧ (¬ (3 ≤ a))) ∧ (((¬ (b < 0)) ∧ (¬ (6 ≤ b))) ∧ ((¬ (c < (-1))) ∧ (¬ (7 < c))))) → zx 18 ((a * 6) + b)) : zf L 337 [.inr (.inr 0), .inl a, .inl b, .inl c, .inr (.inr 148)] S (.inl (some (.inl (F337_0_148 a b c S))), (G337_0_148 a b c S), (E337_0_148 a b c S)) := zf_of (en_337 _ _ _ _ _) (zr_2_4 i337_0 (zr_0 i337_1 kc_0 (zr_2_0 i337_2 (zr_1_1 i337_3 (zr_1_2 i337_4 (zr_1_3 i337_5 (zt_cast (zr_callO (f148 a b c S (fun h3999 => (g0 h3999))) (fun h4000 h4002 => zr_cv (zs_32_3 i337_6 na_148 ob_0 rfl) h4002 (zr_30 i337_7 (zr_31 i337_8 ar_148 (zx_1_0) kt_0 (zr_17 i337_9 (zr_0 i337_13 kc_0 (zr_25 i337_14)))))) (fun h4001 h4003 => zt_callH (zs_32_3 i337_6 na_148 ob_0 rfl) h4003 hd_337_0)) (zm_re zz_01 zz_e zz_e))))))))
def F338_0_148 (a b : Int32) (S : zS) : Int32 := (if (((¬ (a < 0)) ∧ (¬ (8 ≤ a))) ∧ ((¬ (b < 0)) ∧ (¬ (8 ≤ b)))) then ((if (¬ (a = b)) then (0 : Int32) else 2) : Int32) else 1)
def G338_0_148 (a b : Int32) (S : zS) : zS := (if (((¬ (a < 0)) ∧ (¬ (8 ≤ a))) ∧ ((¬ (b < 0)) ∧ (¬ (8 ≤ b)))) then (if (¬ (a = b)) then (z_up (K74_4_S a b 0 0 (K75_2_S a b 0 (K126_2_S a b 0 S))) 148 0 (K74_4_c3 a b 0 0 (K75_2_S a b 0 (K126_2_S a b 0 S)))) else S) else S)
def E338_0_148 (a b : Int32) (S : zS) : Nat := (if (((¬ (a < 0)) ∧ (¬ (8 ≤ a))) ∧ ((¬ (b < 0)) ∧ (¬ (8 ≤ b)))) then ((if (¬ (a = b)) then (0 : Nat) else 1) : Nat) else 1)
set_option maxRecDepth 100000 in
theorem E338_0_148_le (a b : Int32) (S : zS) : E338_0_148 a b S ≤ 1 := by unfold E338_0_148; (repeat' split) <;> decide
set_option maxRecDepth 100000 in
theorem f338_0_148 {L : Nat} (a b : Int32) (S : zS) (g0 : zn 40 (S 5 0)) : zf L 338 [.inr (.inr 0), .inl a, .inl b, .inr (.inr 148)] S (.inl (some (.inl (F338_0_148 a b S))), (G338_0_148 a b S), (E338_0_148 a b S)) := zf_of (en_338 _ _ _ _) (zr_2_3 i338_0 (zr_0 i338_1 kc_0 (zr_2_0 i338_2 (zr_1_1 i338_3 (zr_1_2 i338_4 (zt_cast (zr_callO (f149 a b S (g0)) (fun h4004 h4006 => zt_cast (zr_callO h4006 (fun h4008 h4010 => zr_cv (zs_32_2 i338_5 na_149 ob_0 rfl) h4010 (zr_30 i338_6 (zr_31 i338_7 ar_148 (zx_1_0) kt_0 (zr_17 i338_8 (zr_0 i338_15 kc_0 (zr_25 i338_16)))))) (fun h4009 h4011 => zt_callH (zs_32_2 i338_5 na_149 ob_0 rfl) h4011 hd_338_1)) (zm_re zz_e zz_e zz_e)) (fun h4005 h4007 => zt_callH (zs_32_2 i338_5 na_149 ob_0 rfl) h4007 hd_338_0)) (zm_re zz_e zz_e zz_e)))))))
def F339_0_148 (a b c d : Int32) (S : zS) : Int32 := (zb (¬ (((¬ (a < 0)) ∧ (¬ (4 ≤ a))) ∧ ((¬ (c < 0)) ∧ (¬ ((if (b = 0) then (8 : Int32) else 4) ≤ c))))))
def G339_0_148 (a b c d : Int32) (S : zS) : zS := (if (((¬ (a < 0)) ∧ (¬ (4 ≤ a))) ∧ ((¬ (c < 0)) ∧ (¬ ((if (b = 0) then (8 : Int32) else 4) ≤ c)))) then (z_up (if (b = 0) then (z_up S 28 a.toNatClampNeg (if (d = 0) then (((S 28 a.toNatClampNeg) &&& ((zshl 1 c) ^^^ (-1))) : Int32) else ((S 28 a.toNatClampNeg) ||| (zshl 1 c)))) else (z_up S 29 a.toNatClampNeg (if (d = 0) then (((S 29 a.toNatClampNeg) &&& ((zshl 1 c) ^^^ (-1))) : Int32) else ((S 29 a.toNatClampNeg) ||| (zshl 1 c))))) 148 0 (zb (if (b = 0) then (((zshr (S 28 a.toNatClampNeg) c) &&& 1) = 1) else (((zshr (S 29 a.toNatClampNeg) c) &&& 1) = 1)))) else S)
def E339_0_148 (a b c d : Int32) (S : zS) : Nat := (if (((¬ (a < 0)) ∧ (¬ (4 ≤ a))) ∧ ((¬ (c < 0)) ∧ (¬ ((if (b = 0) then (8 : Int32) else 4) ≤ c)))) then (0 : Nat) else 1)
set_option maxRecDepth 100000 in
theorem E339_0_148_le (a b c d : Int32) (S : zS) : E339_0_148 a b c d S ≤ 1 := by unfold E339_0_148; (repeat' split) <;> decide
set_option maxRecDepth 100000 in
theorem f339_0_148 {L : Nat} (a b c d : Int32) (S : zS) (g0 : (((¬ (a < 0)) ∧ (¬ (4 ≤ a))) ∧ ((¬ (c < 0)) ∧ (¬ ((if (b = 0) then (8 : Int32) else 4) ≤ c)))) → (b = 0) → zx 4 a) (g1 : (((¬ (a < 0)) ∧ (¬ (4 ≤ a))) ∧ ((¬ (c < 0)) ∧ (¬ ((if (b = 0) then (8 : Int32) else 4) ≤ c)))) → (¬ (b = 0)) → zx 4 a) : zf L 339 [.inr (.inr 0), .inl a, .inl b, .inl c, .inl d, .inr (.inr 148)] S (.inl (some (.inl (F339_0_148 a b c d S))), (G339_0_148 a b c d S), (E339_0_148 a b c d S)) := zf_of (en_339 _ _ _ _ _ _) (zr_2_5 i339_0 (zr_0 i339_1 kc_0 (zr_2_0 i339_2 (zr_1_1 i339_3 (zr_1_2 i339_4 (zr_1_3 i339_5 (zr_1_4 i339_6 (zt_cast (zr_callO (f150 a b c d S (fun h4012 h4013 => (g0 h4012 h4013)) (fun h4014 h4015 => (g1 h4014 h4015))) (fun h4016 h4018 => zr_cv (zs_32_4 i339_7 na_150 ob_0 rfl) h4018 (zt_trans (zt_cast (zr_18b_0 i339_8 (fun h4020 => zr_39 i339_9 kc_1 (zr_17 i339_10 (zt_rfl))) (fun h4021 => zr_39 i339_11 kc_0 (zt_rfl))) (zm_c zz_s (zl_c (zl_l zz_10) zz_s) zz_s)) (zr_31 i339_12 ar_148 (zx_1_0) kt_0 (zr_17 i339_13 (zr_0 i339_17 kc_0 (zr_25 i339_18)))))) (fun h4017 h4019 => zt_callH (zs_32_4 i339_7 na_150 ob_0 rfl) h4019 hd_339_0)) (zm_re zz_01 zz_e zz_e)))))))))
def F340_0_148 (a b : Int32) (S : zS) : Int32 := (zb (¬ (((¬ (a < 0)) ∧ (¬ (3 ≤ a))) ∧ ((¬ (b < 0)) ∧ (¬ (6 ≤ b))))))
def G340_0_148 (a b : Int32) (S : zS) : zS := (if (((¬ (a < 0)) ∧ (¬ (3 ≤ a))) ∧ ((¬ (b < 0)) ∧ (¬ (6 ≤ b)))) then (z_up (if ((S 1 6) = 0) then S else (if ((S 24 ((a * 6) + b).toNatClampNeg) = (-1)) then S else (if (¬ ((S 5 0) < 40)) then S else (z_up (z_up (z_up (z_up (z_up (z_up (G122 (-1) 0 (S 24 ((a * 6) + b).toNatClampNeg) (S 25 a.toNatClampNeg) S) 34 (S 5 0).toNatClampNeg (((G122 (-1) 0 (S 24 ((a * 6) + b).toNatClampNeg) (S 25 a.toNatClampNeg) S) 0 11) + 24)) 35 (S 5 0).toNatClampNeg (((G122 (-1) 0 (S 24 ((a * 6) + b).toNatClampNeg) (S 25 a.toNatClampNeg) S) 0 11) + 72)) 36 (S 5 0).toNatClampNeg 24) 37 (S 5 0).toNatClampNeg (-1)) 38 (S 5 0).toNatClampNeg 15) 39 (S 5 0).toNatClampNeg 0)))) 148 0 (if ((S 1 6) = 0) then ((-2) : Int32) else (if ((S 24 ((a * 6) + b).toNatClampNeg) = (-1)) then ((-6) : Int32) else (if (¬ ((S 5 0) < 40)) then ((-11) : Int32) else (S 5 0))))) else S)
def E340_0_148 (a b : Int32) (S : zS) : Nat := (if (((¬ (a < 0)) ∧ (¬ (3 ≤ a))) ∧ ((¬ (b < 0)) ∧ (¬ (6 ≤ b)))) then (0 : Nat) else 1)
set_option maxRecDepth 100000 in
theorem E340_0_148_le (a b : Int32) (S : zS) : E340_0_148 a b S ≤ 1 := by unfold E340_0_148; (repeat' split) <;> decide
set_option maxRecDepth 100000 in
theorem f340_0_148 {L : Nat} (a b : Int32) (S : zS) (g0 : (((¬ (a < 0)) ∧ (¬ (3 ≤ a))) ∧ ((¬ (b < 0)) ∧ (¬ (6 ≤ b)))) → zx 18 ((a * 6) + b)) (g1 : zo (S 1 6)) (g2 : (((¬ (a < 0)) ∧ (¬ (3 ≤ a))) ∧ ((¬ (b < 0)) ∧ (¬ (6 ≤ b)))) → (¬ ((S 1 6) = 0)) → (¬ ((S 24 ((a * 6) + b).toNatClampNeg) = (-1))) → (¬ (¬ ((S 5 0) < 40))) → zx 3 a) (g3 : (((¬ (a < 0)) ∧ (¬ (3 ≤ a))) ∧ ((¬ (b < 0)) ∧ (¬ (6 ≤ b)))) → (¬ ((S 1 6) = 0)) → (¬ ((S 24 ((a * 6) + b).toNatClampNeg) = (-1))) → (¬ (¬ ((S 5 0) < 40))) → zx 40 (S 5 0)) : zf L 340 [.inr (.inr 0), .inl a, .inl b, .inr (.inr 148)] S (.inl (some (.inl (F340_0_148 a b S))), (G340_0_148 a b S), (E340_0_148 a b S)) := zf_of (en_340 _ _ _ _) (zr_2_3 i340_0 (zr_0 i340_1 kc_0 (zr_2_0 i340_2 (zr_1_1 i340_3 (zr_1_2 i340_4 (zt_cast (zr_callO (f151 a b S (fun h4022 => (g0 h4022)) (g1) (fun h4023 h4024 h4025 h4026 => (g2 h4023 h4024 h4025 h4026)) (fun h4027 h4028 h4029 h4030 => (g3 h4027 h4028 h4029 h4030))) (fun h4031 h4033 => zr_cv (zs_32_2 i340_5 na_151 ob_0 rfl) h4033 (zr_30 i340_6 (zr_31 i340_7 ar_148 (zx_1_0) kt_0 (zr_17 i340_8 (zr_0 i340_12 kc_0 (zr_25 i340_13)))))) (fun h4032 h4034 => zt_callH (zs_32_2 i340_5 na_151 ob_0 rfl) h4034 hd_340_0)) (zm_re zz_01 zz_e zz_e)))))))
def F341_0_148 (a b c d e f g h : Int32) (S : zS) : Int32 := (zb ((¬ (((¬ (b < 0)) ∧ (¬ (2 < b))) ∧ ((¬ (c < 0)) ∧ (¬ (255 < c))))) ∨ ((¬ (((¬ (d < 1)) ∧ (¬ (100 < d))) ∧ ((¬ (e < d)) ∧ (¬ (200 < e))))) ∨ (¬ (if (f = (-1)) then ((¬ (g < 1)) ∧ (¬ (15 < g))) else (((¬ (f < 1)) ∧ (¬ (20 < f))) ∧ ((¬ (g < 1)) ∧ (¬ (15 < g)))))))))
def G341_0_148 (a b c d e f g h : Int32) (S : zS) : zS := (if (((¬ (b < 0)) ∧ (¬ (2 < b))) ∧ ((¬ (c < 0)) ∧ (¬ (255 < c)))) then (if (((¬ (d < 1)) ∧ (¬ (100 < d))) ∧ ((¬ (e < d)) ∧ (¬ (200 < e)))) then (if (if (f = (-1)) then ((¬ (g < 1)) ∧ (¬ (15 < g))) else (((¬ (f < 1)) ∧ (¬ (20 < f))) ∧ ((¬ (g < 1)) ∧ (¬ (15 < g))))) then (z_up (if ((F199 a c S) = 0) then (z_up (z_up (z_up (z_up (z_up (z_up (G122 a b (if (a = (-1)) then ((-1) : Int32) else (S 32 a.toNatClampNeg)) c S) 34 (S 5 0).toNatClampNeg (((G122 a b (if (a = (-1)) then ((-1) : Int32) else (S 32 a.toNatClampNeg)) c S) 0 11) + d)) 35 (S 5 0).toNatClampNeg (((G122 a b (if (a = (-1)) then ((-1) : Int32) else (S 32 a.toNatClampNeg)) c S) 0 11) + e)) 36 (S 5 0).toNatClampNeg d) 37 (S 5 0).toNatClampNeg f) 38 (S 5 0).toNatClampNeg g) 39 (S 5 0).toNatClampNeg h) else S) 148 0 (if ((F199 a c S) = 0) then ((S 5 0) : Int32) else (F199 a c S))) else S) else S) else S)
def E341_0_148 (a b c d e f g h : Int32) (S : zS) : Nat := (if (((¬ (b < 0)) ∧ (¬ (2 < b))) ∧ ((¬ (c < 0)) ∧ (¬ (255 < c)))) then ((if (((¬ (d < 1)) ∧ (¬ (100 < d))) ∧ ((¬ (e < d)) ∧ (¬ (200 < e)))) then ((if (if (f = (-1)) then ((¬ (g < 1)) ∧ (¬ (15 < g))) else (((¬ (f < 1)) ∧ (¬ (20 < f))) ∧ ((¬ (g < 1)) ∧ (¬ (15 < g))))) then (0 : Nat) else 1) : Nat) else 1) : Nat) else 1)
set_option maxRecDepth 100000 in
theorem E341_0_148_le (a b c d e f g h : Int32) (S : zS) : E341_0_148 a b c d e f g h S ≤ 1 := by unfold E341_0_148; (repeat' split) <;> decide
set_option maxRecDepth 100000 in
theorem f341_0_148 {L : Nat} (a b c d e f g h : Int32) (S : zS) (g0 : zo (S 1 6)) (g1 : (((¬ (b < 0)) ∧ (¬ (2 < b))) ∧ ((¬ (c < 0)) ∧ (¬ (255 < c)))) → (((¬ (d < 1)) ∧ (¬ (100 < d))) ∧ ((¬ (e < d)) ∧ (¬ (200 < e)))) → (if (f = (-1)) then ((¬ (g < 1)) ∧ (¬ (15 < g))) else (((¬ (f < 1)) ∧ (¬ (20 < f))) ∧ ((¬ (g < 1)) ∧ (¬ (15 < g))))) → (¬ ((S 1 6) = 0)) → (¬ (a = (-1))) → ((¬ (a < 0)) ∧ (¬ ((S 5 0) ≤ a))) → zx 40 a) (g2 : (((¬ (b < 0)) ∧ (¬ (2 < b))) ∧ ((¬ (c < 0)) ∧ (¬ (255 < c)))) → (((¬ (d < 1)) ∧ (¬ (100 < d))) ∧ ((¬ (e < d)) ∧ (¬ (200 < e)))) → (if (f = (-1)) then ((¬ (g < 1)) ∧ (¬ (15 < g))) else (((¬ (f < 1)) ∧ (¬ (20 < f))) ∧ ((¬ (g < 1)) ∧ (¬ (15 < g))))) → ((F199 a c S) = 0) → (¬ (a = (-1))) → zx 40 a) (g3 : (((¬ (b < 0)) ∧ (¬ (2 < b))) ∧ ((¬ (c < 0)) ∧ (¬ (255 < c)))) → (((¬ (d < 1)) ∧ (¬ (100 < d))) ∧ ((¬ (e < d)) ∧ (¬ (200 < e)))) → (if (f = (-1)) then ((¬ (g < 1)) ∧ (¬ (15 < g))) else (((¬ (f < 1)) ∧ (¬ (20 < f))) ∧ ((¬ (g < 1)) ∧ (¬ (15 < g))))) → ((F199 a c S) = 0) → zx 40 (S 5 0)) (g4 : (((¬ (b < 0)) ∧ (¬ (2 < b))) ∧ ((¬ (c < 0)) ∧ (¬ (255 < c)))) → (((¬ (d < 1)) ∧ (¬ (100 < d))) ∧ ((¬ (e < d)) ∧ (¬ (200 < e)))) → (if (f = (-1)) then ((¬ (g < 1)) ∧ (¬ (15 < g))) else (((¬ (f < 1)) ∧ (¬ (20 < f))) ∧ ((¬ (g < 1)) ∧ (¬ (15 < g))))) → ((F199 a c S) = 0) → zo h) : zf L 341 [.inr (.inr 0), .inl a, .inl b, .inl c, .inl d, .inl e, .inl f, .inl g, .inl h, .inr (.inr 148)] S (.inl (some (.inl (F341_0_148 a b c d e f g h S))), (G341_0_148 a b c d e f g h S), (E341_0_148 a b c d e f g h S)) := zf_of (en_341 _ _ _ _ _ _ _ _ _ _) (zr_2_9 i341_0 (zr_0 i341_1 kc_0 (zr_2_0 i341_2 (zr_1_1 i341_3 (zr_1_2 i341_4 (zr_1_3 i341_5 (zr_1_4 i341_6 (zr_1_5 i341_7 (zr_1_6 i341_8 (zr_1_7 i341_9 (zr_1_8 i341_10 (zt_cast (zr_callO (f152 a b c d e f g h S (g0) (fun h4035 h4036 h4037 h4038 h4039 h4040 => (g1 h4035 h4036 h4037 h4038 h4039 h4040)) (fun h4041 h4042 h4043 h4044 h4045 => (g2 h4041 h4042 h4043 h4044 h4045)) (fun h4046 h4047 h4048 h4049 => (g3 h4046 h4047 h4048 h4049)) (fun h4050 h4051 h4052 h4053 => (g4 h4050 h4051 h4052 h4053))) (fun h4054 h4056 => zt_cast (zr_callO h4056 (fun h4058 h4060 => zt_cast (zr_callO h4060 (fun h4062 h4064 => zr_cv (zs_32_8 i341_11 na_152 ob_0 rfl) h4064 (zr_30 i341_12 (zr_31 i341_13 ar_148 (zx_1_0) kt_0 (zr_17 i341_14 (zr_0 i341_18 kc_0 (zr_25 i341_19)))))) (fun h4063 h4065 => zt_callH (zs_32_8 i341_11 na_152 ob_0 rfl) h4065 hd_341_1)) (zm_re zz_01 zz_e zz_e)) (fun h4059 h4061 => zt_callH (zs_32_8 i341_11 na_152 ob_0 rfl) h4061 hd_341_1)) (zm_re zz_b1 zz_e zz_e)) (fun h4055 h4057 => zt_callH (zs_32_8 i341_11 na_152 ob_0 rfl) h4057 hd_341_1)) (zm_re zz_b1 zz_e zz_e)))))))))))))
def F342_0_148 (a b : Int32) (S : zS) : Int32 := (if ((¬ (a < 0)) ∧ (¬ ((S 5 0) ≤ a))) then ((if ((¬ (b < 1)) ∧ (¬ (100 < b))) then (0 : Int32) else 2) : Int32) else 1)
def G342_0_148 (a b : Int32) (S : zS) : zS := (if ((¬ (a < 0)) ∧ (¬ ((S 5 0) ≤ a))) then (if ((¬ (b < 1)) ∧ (¬ (100 < b))) then (z_up (if ((S 1 6) = 0) then S else (if ((S 40 a.toNatClampNeg) = 0) then (if ((S 31 a.toNatClampNeg) = 1) then S else (z_up S 34 a.toNatClampNeg (if ((S 31 a.toNatClampNeg) = 2) then (((S 0 11) + (S 36 a.toNatClampNeg)) : Int32) else (zmin ((S 0 11) + b) (S 35 a.toNatClampNeg))))) else S)) 148 0 (if ((S 1 6) = 0) then ((-2) : Int32) else (if ((S 40 a.toNatClampNeg) = 0) then ((if ((S 31 a.toNatClampNeg) = 1) then ((-4) : Int32) else (if ((S 31 a.toNatClampNeg) = 2) then (((S 0 11) + (S 36 a.toNatClampNeg)) : Int32) else (zmin ((S 0 11) + b) (S 35 a.toNatClampNeg)))) : Int32) else (-4)))) else S) else S)
def E342_0_148 (a b : Int32) (S : zS) : Nat := (if ((¬ (a < 0)) ∧ (¬ ((S 5 0) ≤ a))) then ((if ((¬ (b < 1)) ∧ (¬ (100 < b))) then (0 : Nat) else 1) : Nat) else 1)
set_option maxRecDepth 100000 in
theorem E342_0_148_le (a b : Int32) (S : zS) : E342_0_148 a b S ≤ 1 := by unfold E342_0_148; (repeat' split) <;> decide
set_option maxRecDepth 100000 in
theorem f342_0_148 {L : Nat} (a b : Int32) (S : zS) (g0 : zo (S 1 6)) (g1 : ((¬ (a < 0)) ∧ (¬ ((S 5 0) ≤ a))) → ((¬ (b < 1)) ∧ (¬ (100 < b))) → (¬ ((S 1 6) = 0)) → zx 40 a) : zf L 342 [.inr (.inr 0), .inl a, .inl b, .inr (.inr 148)] S (.inl (some (.inl (F342_0_148 a b S))), (G342_0_148 a b S), (E342_0_148 a b S)) := zf_of (en_342 _ _ _ _) (zr_2_3 i342_0 (zr_0 i342_1 kc_0 (zr_2_0 i342_2 (zr_1_1 i342_3 (zr_1_2 i342_4 (zt_cast (zr_callO (f153 a b S (g0) (fun h4066 h4067 h4068 => (g1 h4066 h4067 h4068))) (fun h4069 h4071 => zt_cast (zr_callO h4071 (fun h4073 h4075 => zr_cv (zs_32_2 i342_5 na_153 ob_0 rfl) h4075 (zr_30 i342_6 (zr_31 i342_7 ar_148 (zx_1_0) kt_0 (zr_17 i342_8 (zr_0 i342_15 kc_0 (zr_25 i342_16)))))) (fun h4074 h4076 => zt_callH (zs_32_2 i342_5 na_153 ob_0 rfl) h4076 hd_342_1)) (zm_re zz_e zz_e zz_e)) (fun h4070 h4072 => zt_callH (zs_32_2 i342_5 na_153 ob_0 rfl) h4072 hd_342_0)) (zm_re zz_e zz_e zz_e)))))))
def F343_0_148 (a : Int32) (S : zS) : Int32 := (zb (¬ ((¬ (a < 0)) ∧ (¬ ((S 5 0) ≤ a)))))
def G343_0_148 (a : Int32) (S : zS) : zS := (if ((¬ (a < 0)) ∧ (¬ ((S 5 0) ≤ a))) then (z_up (G200 a S) 148 0 (if ((S 40 a.toNatClampNeg) = 0) then ((K129_18_c2 a 1 (a + 1).toNatClampNeg (z_up S 40 a.toNatClampNeg 1)) : Int32) else 0)) else S)
def E343_0_148 (a : Int32) (S : zS) : Nat := (if ((¬ (a < 0)) ∧ (¬ ((S 5 0) ≤ a))) then (0 : Nat) else 1)
set_option maxRecDepth 100000 in
theorem E343_0_148_le (a : Int32) (S : zS) : E343_0_148 a S ≤ 1 := by unfold E343_0_148; (repeat' split) <;> decide
set_option maxRecDepth 100000 in
theorem f343_0_148 {L : Nat} (a : Int32) (S : zS) (g0 : ((¬ (a < 0)) ∧ (¬ ((S 5 0) ≤ a))) → zx 40 a) (g1 : zn 40 (S 5 0)) (g2 : ((¬ (a < 0)) ∧ (¬ ((S 5 0) ≤ a))) → ((S 40 a.toNatClampNeg) = 0) → zn 10000 (a + 1)) (g3 : zn 40 (S 6 0)) (g4 : zA 40 40 (S 41)) (g5 : zA 40 3 (S 43)) : zf L 343 [.inr (.inr 0), .inl a, .inr (.inr 148)] S (.inl (some (.inl (F343_0_148 a S))), (G343_0_148 a S), (E343_0_148 a S)) := zf_of (en_343 _ _ _) (zr_2_2 i343_0 (zr_0 i343_1 kc_0 (zr_2_0 i343_2 (zr_1_1 i343_3 (zt_cast (zr_callO (f154 a S (fun h4077 => (g0 h4077)) (g1) (fun h4078 h4079 => (g2 h4078 h4079)) (g3) (g4) (g5)) (fun h4080 h4082 => zr_cv (zs_32_1 i343_4 na_154 ob_0 rfl) h4082 (zr_30 i343_5 (zr_31 i343_6 ar_148 (zx_1_0) kt_0 (zr_17 i343_7 (zr_0 i343_11 kc_0 (zr_25 i343_12)))))) (fun h4081 h4083 => zt_callH (zs_32_1 i343_4 na_154 ob_0 rfl) h4083 hd_343_0)) (zm_re zz_01 zz_e zz_e))))))
def F344_0_148 (a : Int32) (S : zS) : Int32 := (zb (¬ ((¬ (a < 0)) ∧ (¬ ((S 5 0) ≤ a)))))
def G344_0_148 (a : Int32) (S : zS) : zS := (if ((¬ (a < 0)) ∧ (¬ ((S 5 0) ≤ a))) then (z_up S 148 0 (S 37 a.toNatClampNeg)) else S)
def E344_0_148 (a : Int32) (S : zS) : Nat := (if ((¬ (a < 0)) ∧ (¬ ((S 5 0) ≤ a))) then (0 : Nat) else 1)
set_option maxRecDepth 100000 in
theorem E344_0_148_le (a : Int32) (S : zS) : E344_0_148 a S ≤ 1 := by unfold E344_0_148; (repeat' split) <;> decide
set_option maxRecDepth 100000 in
theorem f344_0_148 {L : Nat} (a : Int32) (S : zS) (g0 : ((¬ (a < 0)) ∧ (¬ ((S 5 0) ≤ a))) → zx 40 a) : zf L 344 [.inr (.inr 0), .inl a, .inr (.inr 148)] S (.inl (some (.inl (F344_0_148 a S))), (G344_0_148 a S), (E344_0_148 a S)) := zf_of (en_344 _ _ _) (zr_2_2 i344_0 (zr_0 i344_1 kc_0 (zr_2_0 i344_2 (zr_1_1 i344_3 (zt_cast (zr_callO (f155 a S (fun h4084 => (g0 h4084))) (fun h4085 h4087 => zr_cv (zs_32_1 i344_4 na_155 ob_0 rfl) h4087 (zr_30 i344_5 (zr_31 i344_6 ar_148 (zx_1_0) kt_0 (zr_17 i344_7 (zr_0 i344_11 kc_0 (zr_25 i344_12)))))) (fun h4086 h4088 => zt_callH (zs_32_1 i344_4 na_155 ob_0 rfl) h4088 hd_344_0)) (zm_re zz_01 zz_e zz_e))))))
def F345_0_148 (a : Int32) (S : zS) : Int32 := (zb (¬ ((¬ (a < 0)) ∧ (¬ ((S 5 0) ≤ a)))))
def G345_0_148 (a : Int32) (S : zS) : zS := (if ((¬ (a < 0)) ∧ (¬ ((S 5 0) ≤ a))) then (z_up S 148 0 (zb ((S 40 a.toNatClampNeg) = 0))) else S)
def E345_0_148 (a : Int32) (S : zS) : Nat := (if ((¬ (a < 0)) ∧ (¬ ((S 5 0) ≤ a))) then (0 : Nat) else 1)
set_option maxRecDepth 100000 in
theorem E345_0_148_le (a : Int32) (S : zS) : E345_0_148 a S ≤ 1 := by unfold E345_0_148; (repeat' split) <;> decide
set_option maxRecDepth 100000 in
theorem f345_0_148 {L : Nat} (a : Int32) (S : zS) (g0 : ((¬ (a < 0)) ∧ (¬ ((S 5 0) ≤ a))) → zx 40 a) : zf L 345 [.inr (.inr 0), .inl a, .inr (.inr 148)] S (.inl (some (.inl (F345_0_148 a S))), (G345_0_148 a S), (E345_0_148 a S)) := zf_of (en_345 _ _ _) (zr_2_2 i345_0 (zr_0 i345_1 kc_0 (zr_2_0 i345_2 (zr_1_1 i345_3 (zt_cast (zr_callO (f156 a S (fun h4089 => (g0 h4089))) (fun h4090 h4092 => zr_cv (zs_32_1 i345_4 na_156 ob_0 rfl) h4092 (zt_trans (zt_cast (zr_18b_0 i345_5 (fun h4094 => zr_39 i345_6 kc_1 (zr_17 i345_7 (zt_rfl))) (fun h4095 => zr_39 i345_8 kc_0 (zt_rfl))) (zm_c zz_s (zl_c (zl_l zz_10) zz_s) zz_s)) (zr_31 i345_9 ar_148 (zx_1_0) kt_0 (zr_17 i345_10 (zr_0 i345_14 kc_0 (zr_25 i345_15)))))) (fun h4091 h4093 => zt_callH (zs_32_1 i345_4 na_156 ob_0 rfl) h4093 hd_345_0)) (zm_re zz_01 zz_e zz_e))))))
def F346_0_148 (a b : Int32) (S : zS) : Int32 := (if ((¬ (a < 0)) ∧ (¬ ((S 5 0) ≤ a))) then ((if ((¬ (b < 0)) ∧ (¬ (216 ≤ b))) then (0 : Int32) else 2) : Int32) else 1)
def G346_0_148 (a b : Int32) (S : zS) : zS := (if ((¬ (a < 0)) ∧ (¬ ((S 5 0) ≤ a))) then (if ((¬ (b < 0)) ∧ (¬ (216 ≤ b))) then (z_up S 148 0 (F64 (S 33 a.toNatClampNeg) (S 32 a.toNatClampNeg) b S)) else S) else S)
def E346_0_148 (a b : Int32) (S : zS) : Nat := (if ((¬ (a < 0)) ∧ (¬ ((S 5 0) ≤ a))) then ((if ((¬ (b < 0)) ∧ (¬ (216 ≤ b))) then (0 : Nat) else 1) : Nat) else 1)
set_option maxRecDepth 100000 in
theorem E346_0_148_le (a b : Int32) (S : zS) : E346_0_148 a b S ≤ 1 := by unfold E346_0_148; (repeat' split) <;> decide
set_option maxRecDepth 100000 in
theorem f346_0_148 {L : Nat} (a b : Int32) (S : zS) (g0 : ((¬ (a < 0)) ∧ (¬ ((S 5 0) ≤ a))) → ((¬ (b < 0)) ∧ (¬ (216 ≤ b))) → zx 40 a) (g1 : ((¬ (a < 0)) ∧ (¬ ((S 5 0) ≤ a))) → ((¬ (b < 0)) ∧ (¬ (216 ≤ b))) → (¬ ((S 32 a.toNatClampNeg) < 0)) → ((S 32 a.toNatClampNeg) < 8) → zx 8 (S 32 a.toNatClampNeg)) : zf L 346 [.inr (.inr 0), .inl a, .inl b, .inr (.inr 148)] S (.inl (some (.inl (F346_0_148 a b S))), (G346_0_148 a b S), (E346_0_148 a b S)) := zf_of (en_346 _ _ _ _) (zr_2_3 i346_0 (zr_0 i346_1 kc_0 (zr_2_0 i346_2 (zr_1_1 i346_3 (zr_1_2 i346_4 (zt_cast (zr_callO (f157 a b S (fun h4096 h4097 => (g0 h4096 h4097)) (fun h4098 h4099 h4100 h4101 => (g1 h4098 h4099 h4100 h4101))) (fun h4102 h4104 => zt_cast (zr_callO h4104 (fun h4106 h4108 => zr_cv (zs_32_2 i346_5 na_157 ob_0 rfl) h4108 (zr_30 i346_6 (zr_31 i346_7 ar_148 (zx_1_0) kt_0 (zr_17 i346_8 (zr_0 i346_15 kc_0 (zr_25 i346_16)))))) (fun h4107 h4109 => zt_callH (zs_32_2 i346_5 na_157 ob_0 rfl) h4109 hd_346_1)) (zm_re zz_e zz_e zz_e)) (fun h4103 h4105 => zt_callH (zs_32_2 i346_5 na_157 ob_0 rfl) h4105 hd_346_0)) (zm_re zz_e zz_e zz_e)))))))
def F347_0_148 (a b c d : Int32) (S : zS) : Int32 := (zb (¬ (((¬ (b < 0)) ∧ (¬ (4 ≤ b))) ∧ (((¬ (c < 0)) ∧ (¬ (216 ≤ c))) ∧ ((¬ (d < 0)) ∧ (¬ (9999 < d)))))))
def G347_0_148 (a b c d : Int32) (S : zS) : zS := (if (((¬ (b < 0)) ∧ (¬ (4 ≤ b))) ∧ (((¬ (c < 0)) ∧ (¬ (216 ≤ c))) ∧ ((¬ (d < 0)) ∧ (¬ (9999 < d))))) then (z_up (G197 a c 1 (if ((F196 a b c 1 S) = 0) then ((F202 a c d (G196 a b c 1 S)) : Int32) else (F196 a b c 1 S)) (if ((F196 a b c 1 S) = 0) then (G202 a c d (G196 a b c 1 S)) else (G196 a b c 1 S))) 148 0 (if ((F196 a b c 1 S) = 0) then ((F202 a c d (G196 a b c 1 S)) : Int32) else (F196 a b c 1 S))) else S)
def E347_0_148 (a b c d : Int32) (S : zS) : Nat := (if (((¬ (b < 0)) ∧ (¬ (4 ≤ b))) ∧ (((¬ (c < 0)) ∧ (¬ (216 ≤ c))) ∧ ((¬ (d < 0)) ∧ (¬ (9999 < d))))) then (0 : Nat) else 1)
set_option maxRecDepth 100000 in
theorem E347_0_148_le (a b c d : Int32) (S : zS) : E347_0_148 a b c d S ≤ 1 := by unfold E347_0_148; (repeat' split) <;> decide
set_option maxRecDepth 100000 in
theorem f347_0_148 {L : Nat} (a b c d : Int32) (S : zS) (g0 : zo (S 1 6)) (g1 : zo (((0 ||| (S 77 0)) ||| (S 77 1)) ||| (S 77 2))) (g2 : (((¬ (b < 0)) ∧ (¬ (4 ≤ b))) ∧ (((¬ (c < 0)) ∧ (¬ (216 ≤ c))) ∧ ((¬ (d < 0)) ∧ (¬ (9999 < d))))) → (¬ ((S 1 6) = 0)) → ((F101 S) = 0) → ((¬ (a < 0)) ∧ (¬ ((S 5 0) ≤ a))) → zx 40 a) (g3 : (((¬ (b < 0)) ∧ (¬ (4 ≤ b))) ∧ (((¬ (c < 0)) ∧ (¬ (216 ≤ c))) ∧ ((¬ (d < 0)) ∧ (¬ (9999 < d))))) → (¬ ((S 1 6) = 0)) → ((F101 S) = 0) → (((¬ (a < 0)) ∧ (¬ ((S 5 0) ≤ a))) ∧ (((S 40 a.toNatClampNeg) = 0) ∧ (((zshr (S 38 a.toNatClampNeg) b) &&& 1) = 1))) → zx 40 a) (g4 : (((¬ (b < 0)) ∧ (¬ (4 ≤ b))) ∧ (((¬ (c < 0)) ∧ (¬ (216 ≤ c))) ∧ ((¬ (d < 0)) ∧ (¬ (9999 < d))))) → (¬ ((S 1 6) = 0)) → ((F101 S) = 0) → (((¬ (a < 0)) ∧ (¬ ((S 5 0) ≤ a))) ∧ (((S 40 a.toNatClampNeg) = 0) ∧ (((zshr (S 38 a.toNatClampNeg) b) &&& 1) = 1))) → zx 6 (c / 36)) (g5 : (((¬ (b < 0)) ∧ (¬ (4 ≤ b))) ∧ (((¬ (c < 0)) ∧ (¬ (216 ≤ c))) ∧ ((¬ (d < 0)) ∧ (¬ (9999 < d))))) → (¬ ((S 1 6) = 0)) → ((F101 S) = 0) → (((¬ (a < 0)) ∧ (¬ ((S 5 0) ≤ a))) ∧ (((S 40 a.toNatClampNeg) = 0) ∧ (((zshr (S 38 a.toNatClampNeg) b) &&& 1) = 1))) → (((if ((S 37 a.toNatClampNeg) ≤ 0) then S else (z_up S 37 a.toNatClampNeg ((S 37 a.toNatClampNeg) - 1))) 19 (c / 36).toNatClampNeg) < ((if ((S 37 a.toNatClampNeg) ≤ 0) then S else (z_up S 37 a.toNatClampNeg ((S 37 a.toNatClampNeg) - 1))) 18 (c / 36).toNatClampNeg)) → (¬ (((if (((if ((S 37 a.toNatClampNeg) ≤ 0) then S else (z_up S 37 a.toNatClampNeg ((S 37 a.toNatClampNeg) - 1))) 19 (c / 36).toNatClampNeg) < ((if ((S 37 a.toNatClampNeg) ≤ 0) then S else (z_up S 37 a.toNatClampNeg ((S 37 a.toNatClampNeg) - 1))) 18 (c / 36).toNatClampNeg)) then (z_up (if ((S 37 a.toNatClampNeg) ≤ 0) then S else (z_up S 37 a.toNatClampNeg ((S 37 a.toNatClampNeg) - 1))) 19 (c / 36).toNatClampNeg (((if ((S 37 a.toNatClampNeg) ≤ 0) then S else (z_up S 37 a.toNatClampNeg ((S 37 a.toNatClampNeg) - 1))) 19 (c / 36).toNatClampNeg) + 1)) else (if ((S 37 a.toNatClampNeg) ≤ 0) then S else (z_up S 37 a.toNatClampNeg ((S 37 a.toNatClampNeg) - 1)))) 32 a.toNatClampNeg) < 0)) → (((if (((if ((S 37 a.toNatClampNeg) ≤ 0) then S else (z_up S 37 a.toNatClampNeg ((S 37 a.toNatClampNeg) - 1))) 19 (c / 36).toNatClampNeg) < ((if ((S 37 a.toNatClampNeg) ≤ 0) then S else (z_up S 37 a.toNatClampNeg ((S 37 a.toNatClampNeg) - 1))) 18 (c / 36).toNatClampNeg)) then (z_up (if ((S 37 a.toNatClampNeg) ≤ 0) then S else (z_up S 37 a.toNatClampNeg ((S 37 a.toNatClampNeg) - 1))) 19 (c / 36).toNatClampNeg (((if ((S 37 a.toNatClampNeg) ≤ 0) then S else (z_up S 37 a.toNatClampNeg ((S 37 a.toNatClampNeg) - 1))) 19 (c / 36).toNatClampNeg) + 1)) else (if ((S 37 a.toNatClampNeg) ≤ 0) then S else (z_up S 37 a.toNatClampNeg ((S 37 a.toNatClampNeg) - 1)))) 32 a.toNatClampNeg) < 8) → zx 8 (S 32 a.toNatClampNeg)) (g6 : (((¬ (b < 0)) ∧ (¬ (4 ≤ b))) ∧ (((¬ (c < 0)) ∧ (¬ (216 ≤ c))) ∧ ((¬ (d < 0)) ∧ (¬ (9999 < d))))) → ((F196 a b c 1 S) = 0) → zx 6 (c / 36)) (g7 : (((¬ (b < 0)) ∧ (¬ (4 ≤ b))) ∧ (((¬ (c < 0)) ∧ (¬ (216 ≤ c))) ∧ ((¬ (d < 0)) ∧ (¬ (9999 < d))))) → ((F196 a b c 1 S) = 0) → (((G196 a b c 1 S) 16 (c / 36).toNatClampNeg) = 0) → zx 216 c) (g8 : (((¬ (b < 0)) ∧ (¬ (4 ≤ b))) ∧ (((¬ (c < 0)) ∧ (¬ (216 ≤ c))) ∧ ((¬ (d < 0)) ∧ (¬ (9999 < d))))) → ((F196 a b c 1 S) = 0) → (((G196 a b c 1 S) 16 (c / 36).toNatClampNeg) = 0) → (¬ ((F107 c d (G196 a b c 1 S)) = (-1))) → zx 864 (F107 c d (G196 a b c 1 S))) (g9 : (((¬ (b < 0)) ∧ (¬ (4 ≤ b))) ∧ (((¬ (c < 0)) ∧ (¬ (216 ≤ c))) ∧ ((¬ (d < 0)) ∧ (¬ (9999 < d))))) → ((F196 a b c 1 S) = 0) → zx 40 a) (g10 : (((¬ (b < 0)) ∧ (¬ (4 ≤ b))) ∧ (((¬ (c < 0)) ∧ (¬ (216 ≤ c))) ∧ ((¬ (d < 0)) ∧ (¬ (9999 < d))))) → ((F196 a b c 1 S) = 0) → (¬ (((G196 a b c 1 S) 32 a.toNatClampNeg) < 0)) → (((G196 a b c 1 S) 32 a.toNatClampNeg) < 8) → zx 8 (S 32 a.toNatClampNeg)) (g11 : (((¬ (b < 0)) ∧ (¬ (4 ≤ b))) ∧ (((¬ (c < 0)) ∧ (¬ (216 ≤ c))) ∧ ((¬ (d < 0)) ∧ (¬ (9999 < d))))) → ((F196 a b c 1 S) = 0) → (¬ ((if (((G196 a b c 1 S) 16 (c / 36).toNatClampNeg) = 0) then ((F110 c d ((G196 a b c 1 S) 2 3) (G196 a b c 1 S)) : Int32) else (-13)) < 0)) → (¬ (((F64 ((G196 a b c 1 S) 33 a.toNatClampNeg) ((G196 a b c 1 S) 32 a.toNatClampNeg) c (G196 a b c 1 S)) / 16) = 0)) → (((G196 a b c 1 S) 10 4) < 20) → zx 20 (S 10 4)) (g12 : (((¬ (b < 0)) ∧ (¬ (4 ≤ b))) ∧ (((¬ (c < 0)) ∧ (¬ (216 ≤ c))) ∧ ((¬ (d < 0)) ∧ (¬ (9999 < d))))) → (¬ ((if ((F196 a b c 1 S) = 0) then ((F202 a c d (G196 a b c 1 S)) : Int32) else (F196 a b c 1 S)) = (-2))) → (¬ ((if ((F196 a b c 1 S) = 0) then ((F202 a c d (G196 a b c 1 S)) : Int32) else (F196 a b c 1 S)) = (-3))) → ((¬ (a < 0)) ∧ (¬ (((if ((F196 a b c 1 S) = 0) then (G202 a c d (G196 a b c 1 S)) else (G196 a b c 1 S)) 5 0) ≤ a))) → zx 40 a) (g13 : zn 40 (S 5 0)) (g14 : (((¬ (b < 0)) ∧ (¬ (4 ≤ b))) ∧ (((¬ (c < 0)) ∧ (¬ (216 ≤ c))) ∧ ((¬ (d < 0)) ∧ (¬ (9999 < d))))) → (¬ ((if ((F196 a b c 1 S) = 0) then ((F202 a c d (G196 a b c 1 S)) : Int32) else (F196 a b c 1 S)) = (-2))) → (¬ ((if ((F196 a b c 1 S) = 0) then ((F202 a c d (G196 a b c 1 S)) : Int32) else (F196 a b c 1 S)) = (-3))) → ((¬ (a < 0)) ∧ (¬ (((if ((F196 a b c 1 S) = 0) then (G202 a c d (G196 a b c 1 S)) else (G196 a b c 1 S)) 5 0) ≤ a))) → (((G102 (if ((¬ (a < 0)) ∧ (¬ (((if ((F196 a b c 1 S) = 0) then (G202 a c d (G196 a b c 1 S)) else (G196 a b c 1 S)) 5 0) ≤ a))) then (a : Int32) else 0) c 1 (if ((F196 a b c 1 S) = 0) then ((F202 a c d (G196 a b c 1 S)) : Int32) else (F196 a b c 1 S)) (if ((F196 a b c 1 S) = 0) then (G202 a c d (G196 a b c 1 S)) else (G196 a b c 1 S))) 37 a.toNatClampNeg) = 0) → (((G102 (if ((¬ (a < 0)) ∧ (¬ (((if ((F196 a b c 1 S) = 0) then (G202 a c d (G196 a b c 1 S)) else (G196 a b c 1 S)) 5 0) ≤ a))) then (a : Int32) else 0) c 1 (if ((F196 a b c 1 S) = 0) then ((F202 a c d (G196 a b c 1 S)) : Int32) else (F196 a b c 1 S)) (if ((F196 a b c 1 S) = 0) then (G202 a c d (G196 a b c 1 S)) else (G196 a b c 1 S))) 40 a.toNatClampNeg) = 0) → zn 10000 (a + 1)) (g15 : zn 40 (S 6 0)) (g16 : zA 40 40 (S 41)) (g17 : zA 40 3 (S 43)) : zf L 347 [.inr (.inr 0), .inl a, .inl b, .inl c, .inl d, .inr (.inr 148)] S (.inl (some (.inl (F347_0_148 a b c d S))), (G347_0_148 a b c d S), (E347_0_148 a b c d S)) := zf_of (en_347 _ _ _ _ _ _) (zr_2_5 i347_0 (zr_0 i347_1 kc_0 (zr_2_0 i347_2 (zr_1_1 i347_3 (zr_1_2 i347_4 (zr_1_3 i347_5 (zr_1_4 i347_6 (zt_cast (zr_callO (f158 a b c d S (g0) (g1) (fun h4110 h4111 h4112 h4113 => (g2 h4110 h4111 h4112 h4113)) (fun h4114 h4115 h4116 h4117 => (g3 h4114 h4115 h4116 h4117)) (fun h4118 h4119 h4120 h4121 => (g4 h4118 h4119 h4120 h4121)) (fun h4122 h4123 h4124 h4125 h4126 h4127 h4128 => (g5 h4122 h4123 h4124 h4125 h4126 h4127 h4128)) (fun h4129 h4130 => (g6 h4129 h4130)) (fun h4131 h4132 h4133 => (g7 h4131 h4132 h4133)) (fun h4134 h4135 h4136 h4137 => (g8 h4134 h4135 h4136 h4137)) (fun h4138 h4139 => (g9 h4138 h4139)) (fun h4140 h4141 h4142 h4143 => (g10 h4140 h4141 h4142 h4143)) (fun h4144 h4145 h4146 h4147 h4148 => (g11 h4144 h4145 h4146 h4147 h4148)) (fun h4149 h4150 h4151 h4152 => (g12 h4149 h4150 h4151 h4152)) (g13) (fun h4153 h4154 h4155 h4156 h4157 h4158 => (g14 h4153 h4154 h4155 h4156 h4157 h4158)) (g15) (g16) (g17)) (fun h4159 h4161 => zr_cv (zs_32_4 i347_7 na_158 ob_0 rfl) h4161 (zr_30 i347_8 (zr_31 i347_9 ar_148 (zx_1_0) kt_0 (zr_17 i347_10 (zr_0 i347_14 kc_0 (zr_25 i347_15)))))) (fun h4160 h4162 => zt_callH (zs_32_4 i347_7 na_158 ob_0 rfl) h4162 hd_347_1)) (zm_re zz_01 zz_e zz_e)))))))))
def F348_0_148 (a b c d e : Int32) (S : zS) : Int32 := (zb ((¬ (((¬ (b < 0)) ∧ (¬ (4 ≤ b))) ∧ ((¬ (c < 0)) ∧ (¬ (216 ≤ c))))) ∨ (¬ (((¬ (d < 0)) ∧ (¬ (9999 < d))) ∧ ((¬ (e < (-1))) ∧ (¬ (9999 < e)))))))
def G348_0_148 (a b c d e : Int32) (S : zS) : zS := (if (((¬ (b < 0)) ∧ (¬ (4 ≤ b))) ∧ ((¬ (c < 0)) ∧ (¬ (216 ≤ c)))) then (if (((¬ (d < 0)) ∧ (¬ (9999 < d))) ∧ ((¬ (e < (-1))) ∧ (¬ (9999 < e)))) then (z_up (G197 a c 2 (if ((F196 a b c 2 S) = 0) then ((F203 c d e (G196 a b c 2 S)) : Int32) else (F196 a b c 2 S)) (if ((F196 a b c 2 S) = 0) then (G203 c d e (G196 a b c 2 S)) else (G196 a b c 2 S))) 148 0 (if ((F196 a b c 2 S) = 0) then ((F203 c d e (G196 a b c 2 S)) : Int32) else (F196 a b c 2 S))) else S) else S)
def E348_0_148 (a b c d e : Int32) (S : zS) : Nat := (if (((¬ (b < 0)) ∧ (¬ (4 ≤ b))) ∧ ((¬ (c < 0)) ∧ (¬ (216 ≤ c)))) then ((if (((¬ (d < 0)) ∧ (¬ (9999 < d))) ∧ ((¬ (e < (-1))) ∧ (¬ (9999 < e)))) then (0 : Nat) else 1) : Nat) else 1)
set_option maxRecDepth 100000 in
theorem E348_0_148_le (a b c d e : Int32) (S : zS) : E348_0_148 a b c d e S ≤ 1 := by unfold E348_0_148; (repeat' split) <;> decide
set_option maxRecDepth 100000 in
theorem f348_0_148 {L : Nat} (a b c d e : Int32) (S : zS) (g0 : zo (S 1 6)) (g1 : zo (((0 ||| (S 77 0)) ||| (S 77 1)) ||| (S 77 2))) (g2 : (((¬ (b < 0)) ∧ (¬ (4 ≤ b))) ∧ ((¬ (c < 0)) ∧ (¬ (216 ≤ c)))) → (((¬ (d < 0)) ∧ (¬ (9999 < d))) ∧ ((¬ (e < (-1))) ∧ (¬ (9999 < e)))) → (¬ ((S 1 6) = 0)) → ((F101 S) = 0) → ((¬ (a < 0)) ∧ (¬ ((S 5 0) ≤ a))) → zx 40 a) (g3 : (((¬ (b < 0)) ∧ (¬ (4 ≤ b))) ∧ ((¬ (c < 0)) ∧ (¬ (216 ≤ c)))) → (((¬ (d < 0)) ∧ (¬ (9999 < d))) ∧ ((¬ (e < (-1))) ∧ (¬ (9999 < e)))) → (¬ ((S 1 6) = 0)) → ((F101 S) = 0) → (((¬ (a < 0)) ∧ (¬ ((S 5 0) ≤ a))) ∧ (((S 40 a.toNatClampNeg) = 0) ∧ (((zshr (S 38 a.toNatClampNeg) b) &&& 1) = 1))) → zx 40 a) (g4 : (((¬ (b < 0)) ∧ (¬ (4 ≤ b))) ∧ ((¬ (c < 0)) ∧ (¬ (216 ≤ c)))) → (((¬ (d < 0)) ∧ (¬ (9999 < d))) ∧ ((¬ (e < (-1))) ∧ (¬ (9999 < e)))) → (¬ ((S 1 6) = 0)) → ((F101 S) = 0) → (((¬ (a < 0)) ∧ (¬ ((S 5 0) ≤ a))) ∧ (((S 40 a.toNatClampNeg) = 0) ∧ (((zshr (S 38 a.toNatClampNeg) b) &&& 1) = 1))) → zx 6 (c / 36)) (g5 : (((¬ (b < 0)) ∧ (¬ (4 ≤ b))) ∧ ((¬ (c < 0)) ∧ (¬ (216 ≤ c)))) → (((¬ (d < 0)) ∧ (¬ (9999 < d))) ∧ ((¬ (e < (-1))) ∧ (¬ (9999 < e)))) → (¬ ((S 1 6) = 0)) → ((F101 S) = 0) → (((¬ (a < 0)) ∧ (¬ ((S 5 0) ≤ a))) ∧ (((S 40 a.toNatClampNeg) = 0) ∧ (((zshr (S 38 a.toNatClampNeg) b) &&& 1) = 1))) → (((if ((S 37 a.toNatClampNeg) ≤ 0) then S else (z_up S 37 a.toNatClampNeg ((S 37 a.toNatClampNeg) - 1))) 19 (c / 36).toNatClampNeg) < ((if ((S 37 a.toNatClampNeg) ≤ 0) then S else (z_up S 37 a.toNatClampNeg ((S 37 a.toNatClampNeg) - 1))) 18 (c / 36).toNatClampNeg)) → (¬ (((if (((if ((S 37 a.toNatClampNeg) ≤ 0) then S else (z_up S 37 a.toNatClampNeg ((S 37 a.toNatClampNeg) - 1))) 19 (c / 36).toNatClampNeg) < ((if ((S 37 a.toNatClampNeg) ≤ 0) then S else (z_up S 37 a.toNatClampNeg ((S 37 a.toNatClampNeg) - 1))) 18 (c / 36).toNatClampNeg)) then (z_up (if ((S 37 a.toNatClampNeg) ≤ 0) then S else (z_up S 37 a.toNatClampNeg ((S 37 a.toNatClampNeg) - 1))) 19 (c / 36).toNatClampNeg (((if ((S 37 a.toNatClampNeg) ≤ 0) then S else (z_up S 37 a.toNatClampNeg ((S 37 a.toNatClampNeg) - 1))) 19 (c / 36).toNatClampNeg) + 1)) else (if ((S 37 a.toNatClampNeg) ≤ 0) then S else (z_up S 37 a.toNatClampNeg ((S 37 a.toNatClampNeg) - 1)))) 32 a.toNatClampNeg) < 0)) → (((if (((if ((S 37 a.toNatClampNeg) ≤ 0) then S else (z_up S 37 a.toNatClampNeg ((S 37 a.toNatClampNeg) - 1))) 19 (c / 36).toNatClampNeg) < ((if ((S 37 a.toNatClampNeg) ≤ 0) then S else (z_up S 37 a.toNatClampNeg ((S 37 a.toNatClampNeg) - 1))) 18 (c / 36).toNatClampNeg)) then (z_up (if ((S 37 a.toNatClampNeg) ≤ 0) then S else (z_up S 37 a.toNatClampNeg ((S 37 a.toNatClampNeg) - 1))) 19 (c / 36).toNatClampNeg (((if ((S 37 a.toNatClampNeg) ≤ 0) then S else (z_up S 37 a.toNatClampNeg ((S 37 a.toNatClampNeg) - 1))) 19 (c / 36).toNatClampNeg) + 1)) else (if ((S 37 a.toNatClampNeg) ≤ 0) then S else (z_up S 37 a.toNatClampNeg ((S 37 a.toNatClampNeg) - 1)))) 32 a.toNatClampNeg) < 8) → zx 8 (S 32 a.toNatClampNeg)) (g6 : (((¬ (b < 0)) ∧ (¬ (4 ≤ b))) ∧ ((¬ (c < 0)) ∧ (¬ (216 ≤ c)))) → (((¬ (d < 0)) ∧ (¬ (9999 < d))) ∧ ((¬ (e < (-1))) ∧ (¬ (9999 < e)))) → ((F196 a b c 2 S) = 0) → zx 6 (c / 36)) (g7 : (((¬ (b < 0)) ∧ (¬ (4 ≤ b))) ∧ ((¬ (c < 0)) ∧ (¬ (216 ≤ c)))) → (((¬ (d < 0)) ∧ (¬ (9999 < d))) ∧ ((¬ (e < (-1))) ∧ (¬ (9999 < e)))) → ((F196 a b c 2 S) = 0) → (((G196 a b c 2 S) 16 (c / 36).toNatClampNeg) = 0) → (e = (-1)) → (((G41 ((G196 a b c 2 S) 0 11) (G196 a b c 2 S)) 8 5) < 512) → zx 512 (S 8 5)) (g8 : (((¬ (b < 0)) ∧ (¬ (4 ≤ b))) ∧ ((¬ (c < 0)) ∧ (¬ (216 ≤ c)))) → (((¬ (d < 0)) ∧ (¬ (9999 < d))) ∧ ((¬ (e < (-1))) ∧ (¬ (9999 < e)))) → ((F196 a b c 2 S) = 0) → (((G196 a b c 2 S) 16 (c / 36).toNatClampNeg) = 0) → (e = (-1)) → zx 216 c) (g9 : (((¬ (b < 0)) ∧ (¬ (4 ≤ b))) ∧ ((¬ (c < 0)) ∧ (¬ (216 ≤ c)))) → (((¬ (d < 0)) ∧ (¬ (9999 < d))) ∧ ((¬ (e < (-1))) ∧ (¬ (9999 < e)))) → ((F196 a b c 2 S) = 0) → (((G196 a b c 2 S) 16 (c / 36).toNatClampNeg) = 0) → (e = (-1)) → zx 864 ((c * 4) + (F323 (((G19 c 0 d (F41 ((G196 a b c 2 S) 0 11) (G196 a b c 2 S)) (G41 ((G196 a b c 2 S) 0 11) (G196 a b c 2 S))) 51 c.toNatClampNeg) + 1) 4 (G19 c 0 d (F41 ((G196 a b c 2 S) 0 11) (G196 a b c 2 S)) (G41 ((G196 a b c 2 S) 0 11) (G196 a b c 2 S)))))) (g10 : (((¬ (b < 0)) ∧ (¬ (4 ≤ b))) ∧ ((¬ (c < 0)) ∧ (¬ (216 ≤ c)))) → (((¬ (d < 0)) ∧ (¬ (9999 < d))) ∧ ((¬ (e < (-1))) ∧ (¬ (9999 < e)))) → ((F196 a b c 2 S) = 0) → (((G196 a b c 2 S) 16 (c / 36).toNatClampNeg) = 0) → (¬ (e = (-1))) → zx 216 c) (g11 : (((¬ (b < 0)) ∧ (¬ (4 ≤ b))) ∧ ((¬ (c < 0)) ∧ (¬ (216 ≤ c)))) → (((¬ (d < 0)) ∧ (¬ (9999 < d))) ∧ ((¬ (e < (-1))) ∧ (¬ (9999 < e)))) → ((F196 a b c 2 S) = 0) → (((G196 a b c 2 S) 16 (c / 36).toNatClampNeg) = 0) → (¬ (e = (-1))) → (e = ((G196 a b c 2 S) 51 c.toNatClampNeg)) → (((G41 ((G196 a b c 2 S) 0 11) (G196 a b c 2 S)) 8 5) < 512) → zx 512 (S 8 5)) (g12 : (((¬ (b < 0)) ∧ (¬ (4 ≤ b))) ∧ ((¬ (c < 0)) ∧ (¬ (216 ≤ c)))) → (((¬ (d < 0)) ∧ (¬ (9999 < d))) ∧ ((¬ (e < (-1))) ∧ (¬ (9999 < e)))) → ((F196 a b c 2 S) = 0) → (((G196 a b c 2 S) 16 (c / 36).toNatClampNeg) = 0) → (¬ (e = (-1))) → (e = ((G196 a b c 2 S) 51 c.toNatClampNeg)) → zx 864 ((c * 4) + (F323 (((G19 c 0 d (F41 ((G196 a b c 2 S) 0 11) (G196 a b c 2 S)) (G41 ((G196 a b c 2 S) 0 11) (G196 a b c 2 S))) 51 c.toNatClampNeg) + 1) 4 (G19 c 0 d (F41 ((G196 a b c 2 S) 0 11) (G196 a b c 2 S)) (G41 ((G196 a b c 2 S) 0 11) (G196 a b c 2 S)))))) (g13 : (((¬ (b < 0)) ∧ (¬ (4 ≤ b))) ∧ ((¬ (c < 0)) ∧ (¬ (216 ≤ c)))) → (((¬ (d < 0)) ∧ (¬ (9999 < d))) ∧ ((¬ (e < (-1))) ∧ (¬ (9999 < e)))) → (¬ ((if ((F196 a b c 2 S) = 0) then ((F203 c d e (G196 a b c 2 S)) : Int32) else (F196 a b c 2 S)) = (-2))) → (¬ ((if ((F196 a b c 2 S) = 0) then ((F203 c d e (G196 a b c 2 S)) : Int32) else (F196 a b c 2 S)) = (-3))) → ((¬ (a < 0)) ∧ (¬ (((if ((F196 a b c 2 S) = 0) then (G203 c d e (G196 a b c 2 S)) else (G196 a b c 2 S)) 5 0) ≤ a))) → zx 40 a) (g14 : zn 40 (S 5 0)) (g15 : (((¬ (b < 0)) ∧ (¬ (4 ≤ b))) ∧ ((¬ (c < 0)) ∧ (¬ (216 ≤ c)))) → (((¬ (d < 0)) ∧ (¬ (9999 < d))) ∧ ((¬ (e < (-1))) ∧ (¬ (9999 < e)))) → (¬ ((if ((F196 a b c 2 S) = 0) then ((F203 c d e (G196 a b c 2 S)) : Int32) else (F196 a b c 2 S)) = (-2))) → (¬ ((if ((F196 a b c 2 S) = 0) then ((F203 c d e (G196 a b c 2 S)) : Int32) else (F196 a b c 2 S)) = (-3))) → ((¬ (a < 0)) ∧ (¬ (((if ((F196 a b c 2 S) = 0) then (G203 c d e (G196 a b c 2 S)) else (G196 a b c 2 S)) 5 0) ≤ a))) → (((G102 (if ((¬ (a < 0)) ∧ (¬ (((if ((F196 a b c 2 S) = 0) then (G203 c d e (G196 a b c 2 S)) else (G196 a b c 2 S)) 5 0) ≤ a))) then (a : Int32) else 0) c 2 (if ((F196 a b c 2 S) = 0) then ((F203 c d e (G196 a b c 2 S)) : Int32) else (F196 a b c 2 S)) (if ((F196 a b c 2 S) = 0) then (G203 c d e (G196 a b c 2 S)) else (G196 a b c 2 S))) 37 a.toNatClampNeg) = 0) → (((G102 (if ((¬ (a < 0)) ∧ (¬ (((if ((F196 a b c 2 S) = 0) then (G203 c d e (G196 a b c 2 S)) else (G196 a b c 2 S)) 5 0) ≤ a))) then (a : Int32) else 0) c 2 (if ((F196 a b c 2 S) = 0) then ((F203 c d e (G196 a b c 2 S)) : Int32) else (F196 a b c 2 S)) (if ((F196 a b c 2 S) = 0) then (G203 c d e (G196 a b c 2 S)) else (G196 a b c 2 S))) 40 a.toNatClampNeg) = 0) → zn 10000 (a + 1)) (g16 : zn 40 (S 6 0)) (g17 : zA 40 40 (S 41)) (g18 : zA 40 3 (S 43)) : zf L 348 [.inr (.inr 0), .inl a, .inl b, .inl c, .inl d, .inl e, .inr (.inr 148)] S (.inl (some (.inl (F348_0_148 a b c d e S))), (G348_0_148 a b c d e S), (E348_0_148 a b c d e S)) := zf_of (en_348 _ _ _ _ _ _ _) (zr_2_6 i348_0 (zr_0 i348_1 kc_0 (zr_2_0 i348_2 (zr_1_1 i348_3 (zr_1_2 i348_4 (zr_1_3 i348_5 (zr_1_4 i348_6 (zr_1_5 i348_7 (zt_cast (zr_callO (f159 a b c d e S (g0) (g1) (fun h4163 h4164 h4165 h4166 h4167 => (g2 h4163 h4164 h4165 h4166 h4167)) (fun h4168 h4169 h4170 h4171 h4172 => (g3 h4168 h4169 h4170 h4171 h4172)) (fun h4173 h4174 h4175 h4176 h4177 => (g4 h4173 h4174 h4175 h4176 h4177)) (fun h4178 h4179 h4180 h4181 h4182 h4183 h4184 h4185 => (g5 h4178 h4179 h4180 h4181 h4182 h4183 h4184 h4185)) (fun h4186 h4187 h4188 => (g6 h4186 h4187 h4188)) (fun h4189 h4190 h4191 h4192 h4193 h4194 => (g7 h4189 h4190 h4191 h4192 h4193 h4194)) (fun h4195 h4196 h4197 h4198 h4199 => (g8 h4195 h4196 h4197 h4198 h4199)) (fun h4200 h4201 h4202 h4203 h4204 => (g9 h4200 h4201 h4202 h4203 h4204)) (fun h4205 h4206 h4207 h4208 h4209 => (g10 h4205 h4206 h4207 h4208 h4209)) (fun h4210 h4211 h4212 h4213 h4214 h4215 h4216 => (g11 h4210 h4211 h4212 h4213 h4214 h4215 h4216)) (fun h4217 h4218 h4219 h4220 h4221 h4222 => (g12 h4217 h4218 h4219 h4220 h4221 h4222)) (fun h4223 h4224 h4225 h4226 h4227 => (g13 h4223 h4224 h4225 h4226 h4227)) (g14) (fun h4228 h4229 h4230 h4231 h4232 h4233 h4234 => (g15 h4228 h4229 h4230 h4231 h4232 h4233 h4234)) (g16) (g17) (g18)) (fun h4235 h4237 => zt_cast (zr_callO h4237 (fun h4239 h4241 => zr_cv (zs_32_5 i348_8 na_159 ob_0 rfl) h4241 (zr_30 i348_9 (zr_31 i348_10 ar_148 (zx_1_0) kt_0 (zr_17 i348_11 (zr_0 i348_15 kc_0 (zr_25 i348_16)))))) (fun h4240 h4242 => zt_callH (zs_32_5 i348_8 na_159 ob_0 rfl) h4242 hd_348_1)) (zm_re zz_01 zz_e zz_e)) (fun h4236 h4238 => zt_callH (zs_32_5 i348_8 na_159 ob_0 rfl) h4238 hd_348_1)) (zm_re zz_b1 zz_e zz_e))))))))))
def F349_0_148 (a b c d e : Int32) (S : zS) : Int32 := (zb ((¬ (((¬ (b < 0)) ∧ (¬ (4 ≤ b))) ∧ (((¬ (c < 0)) ∧ (¬ (216 ≤ c))) ∧ ((¬ (d < 0)) ∧ (¬ (9999 < d)))))) ∨ (¬ ((¬ (e < 0)) ∧ (¬ (2 < e))))))
def G349_0_148 (a b c d e : Int32) (S : zS) : zS := (if (((¬ (b < 0)) ∧ (¬ (4 ≤ b))) ∧ (((¬ (c < 0)) ∧ (¬ (216 ≤ c))) ∧ ((¬ (d < 0)) ∧ (¬ (9999 < d))))) then (if ((¬ (e < 0)) ∧ (¬ (2 < e))) then (z_up (G197 a c 4 (if ((F196 a b c 4 S) = 0) then ((F204 c d e (G196 a b c 4 S)) : Int32) else (F196 a b c 4 S)) (if ((F196 a b c 4 S) = 0) then (G204 c d e (G196 a b c 4 S)) else (G196 a b c 4 S))) 148 0 (if ((F196 a b c 4 S) = 0) then ((F204 c d e (G196 a b c 4 S)) : Int32) else (F196 a b c 4 S))) else S) else S)
def E349_0_148 (a b c d e : Int32) (S : zS) : Nat := (if (((¬ (b < 0)) ∧ (¬ (4 ≤ b))) ∧ (((¬ (c < 0)) ∧ (¬ (216 ≤ c))) ∧ ((¬ (d < 0)) ∧ (¬ (9999 < d))))) then ((if ((¬ (e < 0)) ∧ (¬ (2 < e))) then (0 : Nat) else 1) : Nat) else 1)
set_option maxRecDepth 100000 in
theorem E349_0_148_le (a b c d e : Int32) (S : zS) : E349_0_148 a b c d e S ≤ 1 := by unfold E349_0_148; (repeat' split) <;> decide
set_option maxRecDepth 100000 in
theorem f349_0_148 {L : Nat} (a b c d e : Int32) (S : zS) (g0 : zo (S 1 6)) (g1 : zo (((0 ||| (S 77 0)) ||| (S 77 1)) ||| (S 77 2))) (g2 : (((¬ (b < 0)) ∧ (¬ (4 ≤ b))) ∧ (((¬ (c < 0)) ∧ (¬ (216 ≤ c))) ∧ ((¬ (d < 0)) ∧ (¬ (9999 < d))))) → ((¬ (e < 0)) ∧ (¬ (2 < e))) → (¬ ((S 1 6) = 0)) → ((F101 S) = 0) → ((¬ (a < 0)) ∧ (¬ ((S 5 0) ≤ a))) → zx 40 a) (g3 : (((¬ (b < 0)) ∧ (¬ (4 ≤ b))) ∧ (((¬ (c < 0)) ∧ (¬ (216 ≤ c))) ∧ ((¬ (d < 0)) ∧ (¬ (9999 < d))))) → ((¬ (e < 0)) ∧ (¬ (2 < e))) → (¬ ((S 1 6) = 0)) → ((F101 S) = 0) → (((¬ (a < 0)) ∧ (¬ ((S 5 0) ≤ a))) ∧ (((S 40 a.toNatClampNeg) = 0) ∧ (((zshr (S 38 a.toNatClampNeg) b) &&& 1) = 1))) → zx 40 a) (g4 : (((¬ (b < 0)) ∧ (¬ (4 ≤ b))) ∧ (((¬ (c < 0)) ∧ (¬ (216 ≤ c))) ∧ ((¬ (d < 0)) ∧ (¬ (9999 < d))))) → ((¬ (e < 0)) ∧ (¬ (2 < e))) → (¬ ((S 1 6) = 0)) → ((F101 S) = 0) → (((¬ (a < 0)) ∧ (¬ ((S 5 0) ≤ a))) ∧ (((S 40 a.toNatClampNeg) = 0) ∧ (((zshr (S 38 a.toNatClampNeg) b) &&& 1) = 1))) → zx 6 (c / 36)) (g5 : (((¬ (b < 0)) ∧ (¬ (4 ≤ b))) ∧ (((¬ (c < 0)) ∧ (¬ (216 ≤ c))) ∧ ((¬ (d < 0)) ∧ (¬ (9999 < d))))) → ((¬ (e < 0)) ∧ (¬ (2 < e))) → (¬ ((S 1 6) = 0)) → ((F101 S) = 0) → (((¬ (a < 0)) ∧ (¬ ((S 5 0) ≤ a))) ∧ (((S 40 a.toNatClampNeg) = 0) ∧ (((zshr (S 38 a.toNatClampNeg) b) &&& 1) = 1))) → (((if ((S 37 a.toNatClampNeg) ≤ 0) then S else (z_up S 37 a.toNatClampNeg ((S 37 a.toNatClampNeg) - 1))) 19 (c / 36).toNatClampNeg) < ((if ((S 37 a.toNatClampNeg) ≤ 0) then S else (z_up S 37 a.toNatClampNeg ((S 37 a.toNatClampNeg) - 1))) 18 (c / 36).toNatClampNeg)) → (¬ (((if (((if ((S 37 a.toNatClampNeg) ≤ 0) then S else (z_up S 37 a.toNatClampNeg ((S 37 a.toNatClampNeg) - 1))) 19 (c / 36).toNatClampNeg) < ((if ((S 37 a.toNatClampNeg) ≤ 0) then S else (z_up S 37 a.toNatClampNeg ((S 37 a.toNatClampNeg) - 1))) 18 (c / 36).toNatClampNeg)) then (z_up (if ((S 37 a.toNatClampNeg) ≤ 0) then S else (z_up S 37 a.toNatClampNeg ((S 37 a.toNatClampNeg) - 1))) 19 (c / 36).toNatClampNeg (((if ((S 37 a.toNatClampNeg) ≤ 0) then S else (z_up S 37 a.toNatClampNeg ((S 37 a.toNatClampNeg) - 1))) 19 (c / 36).toNatClampNeg) + 1)) else (if ((S 37 a.toNatClampNeg) ≤ 0) then S else (z_up S 37 a.toNatClampNeg ((S 37 a.toNatClampNeg) - 1)))) 32 a.toNatClampNeg) < 0)) → (((if (((if ((S 37 a.toNatClampNeg) ≤ 0) then S else (z_up S 37 a.toNatClampNeg ((S 37 a.toNatClampNeg) - 1))) 19 (c / 36).toNatClampNeg) < ((if ((S 37 a.toNatClampNeg) ≤ 0) then S else (z_up S 37 a.toNatClampNeg ((S 37 a.toNatClampNeg) - 1))) 18 (c / 36).toNatClampNeg)) then (z_up (if ((S 37 a.toNatClampNeg) ≤ 0) then S else (z_up S 37 a.toNatClampNeg ((S 37 a.toNatClampNeg) - 1))) 19 (c / 36).toNatClampNeg (((if ((S 37 a.toNatClampNeg) ≤ 0) then S else (z_up S 37 a.toNatClampNeg ((S 37 a.toNatClampNeg) - 1))) 19 (c / 36).toNatClampNeg) + 1)) else (if ((S 37 a.toNatClampNeg) ≤ 0) then S else (z_up S 37 a.toNatClampNeg ((S 37 a.toNatClampNeg) - 1)))) 32 a.toNatClampNeg) < 8) → zx 8 (S 32 a.toNatClampNeg)) (g6 : (((¬ (b < 0)) ∧ (¬ (4 ≤ b))) ∧ (((¬ (c < 0)) ∧ (¬ (216 ≤ c))) ∧ ((¬ (d < 0)) ∧ (¬ (9999 < d))))) → ((¬ (e < 0)) ∧ (¬ (2 < e))) → ((F196 a b c 4 S) = 0) → zx 6 (c / 36)) (g7 : (((¬ (b < 0)) ∧ (¬ (4 ≤ b))) ∧ (((¬ (c < 0)) ∧ (¬ (216 ≤ c))) ∧ ((¬ (d < 0)) ∧ (¬ (9999 < d))))) → ((¬ (e < 0)) ∧ (¬ (2 < e))) → ((F196 a b c 4 S) = 0) → (((G196 a b c 4 S) 16 (c / 36).toNatClampNeg) = 0) → zx 216 c) (g8 : (((¬ (b < 0)) ∧ (¬ (4 ≤ b))) ∧ (((¬ (c < 0)) ∧ (¬ (216 ≤ c))) ∧ ((¬ (d < 0)) ∧ (¬ (9999 < d))))) → ((¬ (e < 0)) ∧ (¬ (2 < e))) → ((F196 a b c 4 S) = 0) → (((G196 a b c 4 S) 16 (c / 36).toNatClampNeg) = 0) → (¬ ((F107 c d (G196 a b c 4 S)) = (-1))) → zx 864 (F107 c d (G196 a b c 4 S))) (g9 : (((¬ (b < 0)) ∧ (¬ (4 ≤ b))) ∧ (((¬ (c < 0)) ∧ (¬ (216 ≤ c))) ∧ ((¬ (d < 0)) ∧ (¬ (9999 < d))))) → ((¬ (e < 0)) ∧ (¬ (2 < e))) → ((F196 a b c 4 S) = 0) → (((G196 a b c 4 S) 16 (c / 36).toNatClampNeg) = 0) → (¬ ((F107 c d (G196 a b c 4 S)) = (-1))) → (¬ (((G196 a b c 4 S) 54 (F107 c d (G196 a b c 4 S)).toNatClampNeg) = 2)) → (((G196 a b c 4 S) 8 5) < 512) → zx 512 (S 8 5)) (g10 : (((¬ (b < 0)) ∧ (¬ (4 ≤ b))) ∧ (((¬ (c < 0)) ∧ (¬ (216 ≤ c))) ∧ ((¬ (d < 0)) ∧ (¬ (9999 < d))))) → ((¬ (e < 0)) ∧ (¬ (2 < e))) → (¬ ((if ((F196 a b c 4 S) = 0) then ((F204 c d e (G196 a b c 4 S)) : Int32) else (F196 a b c 4 S)) = (-2))) → (¬ ((if ((F196 a b c 4 S) = 0) then ((F204 c d e (G196 a b c 4 S)) : Int32) else (F196 a b c 4 S)) = (-3))) → ((¬ (a < 0)) ∧ (¬ (((if ((F196 a b c 4 S) = 0) then (G204 c d e (G196 a b c 4 S)) else (G196 a b c 4 S)) 5 0) ≤ a))) → zx 40 a) (g11 : zn 40 (S 5 0)) (g12 : (((¬ (b < 0)) ∧ (¬ (4 ≤ b))) ∧ (((¬ (c < 0)) ∧ (¬ (216 ≤ c))) ∧ ((¬ (d < 0)) ∧ (¬ (9999 < d))))) → ((¬ (e < 0)) ∧ (¬ (2 < e))) → (¬ ((if ((F196 a b c 4 S) = 0) then ((F204 c d e (G196 a b c 4 S)) : Int32) else (F196 a b c 4 S)) = (-2))) → (¬ ((if ((F196 a b c 4 S) = 0) then ((F204 c d e (G196 a b c 4 S)) : Int32) else (F196 a b c 4 S)) = (-3))) → ((¬ (a < 0)) ∧ (¬ (((if ((F196 a b c 4 S) = 0) then (G204 c d e (G196 a b c 4 S)) else (G196 a b c 4 S)) 5 0) ≤ a))) → (((G102 (if ((¬ (a < 0)) ∧ (¬ (((if ((F196 a b c 4 S) = 0) then (G204 c d e (G196 a b c 4 S)) else (G196 a b c 4 S)) 5 0) ≤ a))) then (a : Int32) else 0) c 4 (if ((F196 a b c 4 S) = 0) then ((F204 c d e (G196 a b c 4 S)) : Int32) else (F196 a b c 4 S)) (if ((F196 a b c 4 S) = 0) then (G204 c d e (G196 a b c 4 S)) else (G196 a b c 4 S))) 37 a.toNatClampNeg) = 0) → (((G102 (if ((¬ (a < 0)) ∧ (¬ (((if ((F196 a b c 4 S) = 0) then (G204 c d e (G196 a b c 4 S)) else (G196 a b c 4 S)) 5 0) ≤ a))) then (a : Int32) else 0) c 4 (if ((F196 a b c 4 S) = 0) then ((F204 c d e (G196 a b c 4 S)) : Int32) else (F196 a b c 4 S)) (if ((F196 a b c 4 S) = 0) then (G204 c d e (G196 a b c 4 S)) else (G196 a b c 4 S))) 40 a.toNatClampNeg) = 0) → zn 10000 (a + 1)) (g13 : zn 40 (S 6 0)) (g14 : zA 40 40 (S 41)) (g15 : zA 40 3 (S 43)) : zf L 349 [.inr (.inr 0), .inl a, .inl b, .inl c, .inl d, .inl e, .inr (.inr 148)] S (.inl (some (.inl (F349_0_148 a b c d e S))), (G349_0_148 a b c d e S), (E349_0_148 a b c d e S)) := zf_of (en_349 _ _ _ _ _ _ _) (zr_2_6 i349_0 (zr_0 i349_1 kc_0 (zr_2_0 i349_2 (zr_1_1 i349_3 (zr_1_2 i349_4 (zr_1_3 i349_5 (zr_1_4 i349_6 (zr_1_5 i349_7 (zt_cast (zr_callO (f160 a b c d e S (g0) (g1) (fun h4243 h4244 h4245 h4246 h4247 => (g2 h4243 h4244 h4245 h4246 h4247)) (fun h4248 h4249 h4250 h4251 h4252 => (g3 h4248 h4249 h4250 h4251 h4252)) (fun h4253 h4254 h4255 h4256 h4257 => (g4 h4253 h4254 h4255 h4256 h4257)) (fun h4258 h4259 h4260 h4261 h4262 h4263 h4264 h4265 => (g5 h4258 h4259 h4260 h4261 h4262 h4263 h4264 h4265)) (fun h4266 h4267 h4268 => (g6 h4266 h4267 h4268)) (fun h4269 h4270 h4271 h4272 => (g7 h4269 h4270 h4271 h4272)) (fun h4273 h4274 h4275 h4276 h4277 => (g8 h4273 h4274 h4275 h4276 h4277)) (fun h4278 h4279 h4280 h4281 h4282 h4283 h4284 => (g9 h4278 h4279 h4280 h4281 h4282 h4283 h4284)) (fun h4285 h4286 h4287 h4288 h4289 => (g10 h4285 h4286 h4287 h4288 h4289)) (g11) (fun h4290 h4291 h4292 h4293 h4294 h4295 h4296 => (g12 h4290 h4291 h4292 h4293 h4294 h4295 h4296)) (g13) (g14) (g15)) (fun h4297 h4299 => zt_cast (zr_callO h4299 (fun h4301 h4303 => zr_cv (zs_32_5 i349_8 na_160 ob_0 rfl) h4303 (zr_30 i349_9 (zr_31 i349_10 ar_148 (zx_1_0) kt_0 (zr_17 i349_11 (zr_0 i349_15 kc_0 (zr_25 i349_16)))))) (fun h4302 h4304 => zt_callH (zs_32_5 i349_8 na_160 ob_0 rfl) h4304 hd_349_1)) (zm_re zz_01 zz_e zz_e)) (fun h4298 h4300 => zt_callH (zs_32_5 i349_8 na_160 ob_0 rfl) h4300 hd_349_1)) (zm_re zz_b1 zz_e zz_e))))))))))
def F350_0_148 (a b : Int32) (S : zS) : Int32 := (zb (¬ (((¬ (a < 0)) ∧ (¬ (216 ≤ a))) ∧ ((¬ (b < 0)) ∧ (¬ (9999 < b))))))
def G350_0_148 (a b : Int32) (S : zS) : zS := (if (((¬ (a < 0)) ∧ (¬ (216 ≤ a))) ∧ ((¬ (b < 0)) ∧ (¬ (9999 < b)))) then (z_up S 148 0 (if ((F107 a b S) = (-1)) then ((-1) : Int32) else (if ((S 54 (F107 a b S).toNatClampNeg) = 2) then ((-1) : Int32) else (S 53 (F107 a b S).toNatClampNeg)))) else S)
def E350_0_148 (a b : Int32) (S : zS) : Nat := (if (((¬ (a < 0)) ∧ (¬ (216 ≤ a))) ∧ ((¬ (b < 0)) ∧ (¬ (9999 < b)))) then (0 : Nat) else 1)
set_option maxRecDepth 100000 in
theorem E350_0_148_le (a b : Int32) (S : zS) : E350_0_148 a b S ≤ 1 := by unfold E350_0_148; (repeat' split) <;> decide
set_option maxRecDepth 100000 in
theorem f350_0_148 {L : Nat} (a b : Int32) (S : zS) (g0 : (((¬ (a < 0)) ∧ (¬ (216 ≤ a))) ∧ ((¬ (b < 0)) ∧ (¬ (9999 < b)))) → zx 216 a) (g1 : (((¬ (a < 0)) ∧ (¬ (216 ≤ a))) ∧ ((¬ (b < 0)) ∧ (¬ (9999 < b)))) → (¬ ((F107 a b S) = (-1))) → zx 864 (F107 a b S)) : zf L 350 [.inr (.inr 0), .inl a, .inl b, .inr (.inr 148)] S (.inl (some (.inl (F350_0_148 a b S))), (G350_0_148 a b S), (E350_0_148 a b S)) := zf_of (en_350 _ _ _ _) (zr_2_3 i350_0 (zr_0 i350_1 kc_0 (zr_2_0 i350_2 (zr_1_1 i350_3 (zr_1_2 i350_4 (zt_cast (zr_callO (f161 a b S (fun h4305 => (g0 h4305)) (fun h4306 h4307 => (g1 h4306 h4307))) (fun h4308 h4310 => zr_cv (zs_32_2 i350_5 na_161 ob_0 rfl) h4310 (zr_30 i350_6 (zr_31 i350_7 ar_148 (zx_1_0) kt_0 (zr_17 i350_8 (zr_0 i350_12 kc_0 (zr_25 i350_13)))))) (fun h4309 h4311 => zt_callH (zs_32_2 i350_5 na_161 ob_0 rfl) h4311 hd_350_1)) (zm_re zz_01 zz_e zz_e)))))))
def F351_0_148 (a b : Int32) (S : zS) : Int32 := (if ((¬ (a < 0)) ∧ (¬ (3 ≤ a))) then ((if ((¬ (b < 0)) ∧ (¬ (2 < b))) then (0 : Int32) else 2) : Int32) else 1)
def G351_0_148 (a b : Int32) (S : zS) : zS := (if ((¬ (a < 0)) ∧ (¬ (3 ≤ a))) then (if ((¬ (b < 0)) ∧ (¬ (2 < b))) then (z_up (z_up S 48 a.toNatClampNeg b) 148 0 (S 48 a.toNatClampNeg)) else S) else S)
def E351_0_148 (a b : Int32) (S : zS) : Nat := (if ((¬ (a < 0)) ∧ (¬ (3 ≤ a))) then ((if ((¬ (b < 0)) ∧ (¬ (2 < b))) then (0 : Nat) else 1) : Nat) else 1)
set_option maxRecDepth 100000 in
theorem E351_0_148_le (a b : Int32) (S : zS) : E351_0_148 a b S ≤ 1 := by unfold E351_0_148; (repeat' split) <;> decide
set_option maxRecDepth 100000 in
theorem f351_0_148 {L : Nat} (a b : Int32) (S : zS) (g0 : ((¬ (a < 0)) ∧ (¬ (3 ≤ a))) → ((¬ (b < 0)) ∧ (¬ (2 < b))) → zx 3 a) : zf L 351 [.inr (.inr 0), .inl a, .inl b, .inr (.inr 148)] S (.inl (some (.inl (F351_0_148 a b S))), (G351_0_148 a b S), (E351_0_148 a b S)) := zf_of (en_351 _ _ _ _) (zr_2_3 i351_0 (zr_0 i351_1 kc_0 (zr_2_0 i351_2 (zr_1_1 i351_3 (zr_1_2 i351_4 (zt_cast (zr_callO (f162 a b S (fun h4312 h4313 => (g0 h4312 h4313))) (fun h4314 h4316 => zt_cast (zr_callO h4316 (fun h4318 h4320 => zr_cv (zs_32_2 i351_5 na_162 ob_0 rfl) h4320 (zr_30 i351_6 (zr_31 i351_7 ar_148 (zx_1_0) kt_0 (zr_17 i351_8 (zr_0 i351_15 kc_0 (zr_25 i351_16)))))) (fun h4319 h4321 => zt_callH (zs_32_2 i351_5 na_162 ob_0 rfl) h4321 hd_351_1)) (zm_re zz_e zz_e zz_e)) (fun h4315 h4317 => zt_callH (zs_32_2 i351_5 na_162 ob_0 rfl) h4317 hd_351_0)) (zm_re zz_e zz_e zz_e)))))))
def F352_0_148 (a b c d e : Int32) (S : zS) : Int32 := (zb ((¬ (((¬ (b < 0)) ∧ (¬ (4 ≤ b))) ∧ ((¬ (c < 0)) ∧ (¬ (216 ≤ c))))) ∨ (¬ (((¬ (d < 1)) ∧ (¬ (50 < d))) ∧ ((¬ (e < d)) ∧ (¬ (100 < e)))))))
def G352_0_148 (a b c d e : Int32) (S : zS) : zS := (if (((¬ (b < 0)) ∧ (¬ (4 ≤ b))) ∧ ((¬ (c < 0)) ∧ (¬ (216 ≤ c)))) then (if (((¬ (d < 1)) ∧ (¬ (50 < d))) ∧ ((¬ (e < d)) ∧ (¬ (100 < e)))) then (z_up (G197 a c 8 (if ((F196 a b c 8 S) = 0) then ((F205 a c d e (G196 a b c 8 S)) : Int32) else (F196 a b c 8 S)) (if ((F196 a b c 8 S) = 0) then (G205 a c d e (G196 a b c 8 S)) else (G196 a b c 8 S))) 148 0 (if ((F196 a b c 8 S) = 0) then ((F205 a c d e (G196 a b c 8 S)) : Int32) else (F196 a b c 8 S))) else S) else S)
def E352_0_148 (a b c d e : Int32) (S : zS) : Nat := (if (((¬ (b < 0)) ∧ (¬ (4 ≤ b))) ∧ ((¬ (c < 0)) ∧ (¬ (216 ≤ c)))) then ((if (((¬ (d < 1)) ∧ (¬ (50 < d))) ∧ ((¬ (e < d)) ∧ (¬ (100 < e)))) then (0 : Nat) else 1) : Nat) else 1)
set_option maxRecDepth 100000 in
theorem E352_0_148_le (a b c d e : Int32) (S : zS) : E352_0_148 a b c d e S ≤ 1 := by unfold E352_0_148; (repeat' split) <;> decide
set_option maxRecDepth 100000 in
theorem f352_0_148 {L : Nat} (a b c d e : Int32) (S : zS) (g0 : zo (S 1 6)) (g1 : zo (((0 ||| (S 77 0)) ||| (S 77 1)) ||| (S 77 2))) (g2 : (((¬ (b < 0)) ∧ (¬ (4 ≤ b))) ∧ ((¬ (c < 0)) ∧ (¬ (216 ≤ c)))) → (((¬ (d < 1)) ∧ (¬ (50 < d))) ∧ ((¬ (e < d)) ∧ (¬ (100 < e)))) → (¬ ((S 1 6) = 0)) → ((F101 S) = 0) → ((¬ (a < 0)) ∧ (¬ ((S 5 0) ≤ a))) → zx 40 a) (g3 : (((¬ (b < 0)) ∧ (¬ (4 ≤ b))) ∧ ((¬ (c < 0)) ∧ (¬ (216 ≤ c)))) → (((¬ (d < 1)) ∧ (¬ (50 < d))) ∧ ((¬ (e < d)) ∧ (¬ (100 < e)))) → (¬ ((S 1 6) = 0)) → ((F101 S) = 0) → (((¬ (a < 0)) ∧ (¬ ((S 5 0) ≤ a))) ∧ (((S 40 a.toNatClampNeg) = 0) ∧ (((zshr (S 38 a.toNatClampNeg) b) &&& 1) = 1))) → zx 40 a) (g4 : (((¬ (b < 0)) ∧ (¬ (4 ≤ b))) ∧ ((¬ (c < 0)) ∧ (¬ (216 ≤ c)))) → (((¬ (d < 1)) ∧ (¬ (50 < d))) ∧ ((¬ (e < d)) ∧ (¬ (100 < e)))) → (¬ ((S 1 6) = 0)) → ((F101 S) = 0) → (((¬ (a < 0)) ∧ (¬ ((S 5 0) ≤ a))) ∧ (((S 40 a.toNatClampNeg) = 0) ∧ (((zshr (S 38 a.toNatClampNeg) b) &&& 1) = 1))) → zx 6 (c / 36)) (g5 : (((¬ (b < 0)) ∧ (¬ (4 ≤ b))) ∧ ((¬ (c < 0)) ∧ (¬ (216 ≤ c)))) → (((¬ (d < 1)) ∧ (¬ (50 < d))) ∧ ((¬ (e < d)) ∧ (¬ (100 < e)))) → (¬ ((S 1 6) = 0)) → ((F101 S) = 0) → (((¬ (a < 0)) ∧ (¬ ((S 5 0) ≤ a))) ∧ (((S 40 a.toNatClampNeg) = 0) ∧ (((zshr (S 38 a.toNatClampNeg) b) &&& 1) = 1))) → (((if ((S 37 a.toNatClampNeg) ≤ 0) then S else (z_up S 37 a.toNatClampNeg ((S 37 a.toNatClampNeg) - 1))) 19 (c / 36).toNatClampNeg) < ((if ((S 37 a.toNatClampNeg) ≤ 0) then S else (z_up S 37 a.toNatClampNeg ((S 37 a.toNatClampNeg) - 1))) 18 (c / 36).toNatClampNeg)) → (¬ (((if (((if ((S 37 a.toNatClampNeg) ≤ 0) then S else (z_up S 37 a.toNatClampNeg ((S 37 a.toNatClampNeg) - 1))) 19 (c / 36).toNatClampNeg) < ((if ((S 37 a.toNatClampNeg) ≤ 0) then S else (z_up S 37 a.toNatClampNeg ((S 37 a.toNatClampNeg) - 1))) 18 (c / 36).toNatClampNeg)) then (z_up (if ((S 37 a.toNatClampNeg) ≤ 0) then S else (z_up S 37 a.toNatClampNeg ((S 37 a.toNatClampNeg) - 1))) 19 (c / 36).toNatClampNeg (((if ((S 37 a.toNatClampNeg) ≤ 0) then S else (z_up S 37 a.toNatClampNeg ((S 37 a.toNatClampNeg) - 1))) 19 (c / 36).toNatClampNeg) + 1)) else (if ((S 37 a.toNatClampNeg) ≤ 0) then S else (z_up S 37 a.toNatClampNeg ((S 37 a.toNatClampNeg) - 1)))) 32 a.toNatClampNeg) < 0)) → (((if (((if ((S 37 a.toNatClampNeg) ≤ 0) then S else (z_up S 37 a.toNatClampNeg ((S 37 a.toNatClampNeg) - 1))) 19 (c / 36).toNatClampNeg) < ((if ((S 37 a.toNatClampNeg) ≤ 0) then S else (z_up S 37 a.toNatClampNeg ((S 37 a.toNatClampNeg) - 1))) 18 (c / 36).toNatClampNeg)) then (z_up (if ((S 37 a.toNatClampNeg) ≤ 0) then S else (z_up S 37 a.toNatClampNeg ((S 37 a.toNatClampNeg) - 1))) 19 (c / 36).toNatClampNeg (((if ((S 37 a.toNatClampNeg) ≤ 0) then S else (z_up S 37 a.toNatClampNeg ((S 37 a.toNatClampNeg) - 1))) 19 (c / 36).toNatClampNeg) + 1)) else (if ((S 37 a.toNatClampNeg) ≤ 0) then S else (z_up S 37 a.toNatClampNeg ((S 37 a.toNatClampNeg) - 1)))) 32 a.toNatClampNeg) < 8) → zx 8 (S 32 a.toNatClampNeg)) (g6 : (((¬ (b < 0)) ∧ (¬ (4 ≤ b))) ∧ ((¬ (c < 0)) ∧ (¬ (216 ≤ c)))) → (((¬ (d < 1)) ∧ (¬ (50 < d))) ∧ ((¬ (e < d)) ∧ (¬ (100 < e)))) → ((F196 a b c 8 S) = 0) → zx 6 (c / 36)) (g7 : (((¬ (b < 0)) ∧ (¬ (4 ≤ b))) ∧ ((¬ (c < 0)) ∧ (¬ (216 ≤ c)))) → (((¬ (d < 1)) ∧ (¬ (50 < d))) ∧ ((¬ (e < d)) ∧ (¬ (100 < e)))) → ((F196 a b c 8 S) = 0) → (((G196 a b c 8 S) 16 (c / 36).toNatClampNeg) = 1) → (¬ (¬ (((G196 a b c 8 S) 6 0) < 40))) → zx 3 (S 17 (c / 36).toNatClampNeg)) (g8 : (((¬ (b < 0)) ∧ (¬ (4 ≤ b))) ∧ ((¬ (c < 0)) ∧ (¬ (216 ≤ c)))) → (((¬ (d < 1)) ∧ (¬ (50 < d))) ∧ ((¬ (e < d)) ∧ (¬ (100 < e)))) → ((F196 a b c 8 S) = 0) → (((G196 a b c 8 S) 16 (c / 36).toNatClampNeg) = 1) → (¬ (¬ (((G196 a b c 8 S) 6 0) < 40))) → ((¬ (((G196 a b c 8 S) 48 ((G196 a b c 8 S) 17 (c / 36).toNatClampNeg).toNatClampNeg) = 1)) ∧ (¬ (((G196 a b c 8 S) 48 ((G196 a b c 8 S) 17 (c / 36).toNatClampNeg).toNatClampNeg) = 2))) → zx 40 (S 6 0)) (g9 : (((¬ (b < 0)) ∧ (¬ (4 ≤ b))) ∧ ((¬ (c < 0)) ∧ (¬ (216 ≤ c)))) → (((¬ (d < 1)) ∧ (¬ (50 < d))) ∧ ((¬ (e < d)) ∧ (¬ (100 < e)))) → ((F196 a b c 8 S) = 0) → (((G196 a b c 8 S) 16 (c / 36).toNatClampNeg) = 1) → (¬ (¬ (((G196 a b c 8 S) 6 0) < 40))) → ((¬ (((G196 a b c 8 S) 48 ((G196 a b c 8 S) 17 (c / 36).toNatClampNeg).toNatClampNeg) = 1)) ∧ (¬ (((G196 a b c 8 S) 48 ((G196 a b c 8 S) 17 (c / 36).toNatClampNeg).toNatClampNeg) = 2))) → zx 40 a) (g10 : (((¬ (b < 0)) ∧ (¬ (4 ≤ b))) ∧ ((¬ (c < 0)) ∧ (¬ (216 ≤ c)))) → (((¬ (d < 1)) ∧ (¬ (50 < d))) ∧ ((¬ (e < d)) ∧ (¬ (100 < e)))) → (¬ ((if ((F196 a b c 8 S) = 0) then ((F205 a c d e (G196 a b c 8 S)) : Int32) else (F196 a b c 8 S)) = (-2))) → (¬ ((if ((F196 a b c 8 S) = 0) then ((F205 a c d e (G196 a b c 8 S)) : Int32) else (F196 a b c 8 S)) = (-3))) → ((¬ (a < 0)) ∧ (¬ (((if ((F196 a b c 8 S) = 0) then (G205 a c d e (G196 a b c 8 S)) else (G196 a b c 8 S)) 5 0) ≤ a))) → zx 40 a) (g11 : zn 40 (S 5 0)) (g12 : (((¬ (b < 0)) ∧ (¬ (4 ≤ b))) ∧ ((¬ (c < 0)) ∧ (¬ (216 ≤ c)))) → (((¬ (d < 1)) ∧ (¬ (50 < d))) ∧ ((¬ (e < d)) ∧ (¬ (100 < e)))) → (¬ ((if ((F196 a b c 8 S) = 0) then ((F205 a c d e (G196 a b c 8 S)) : Int32) else (F196 a b c 8 S)) = (-2))) → (¬ ((if ((F196 a b c 8 S) = 0) then ((F205 a c d e (G196 a b c 8 S)) : Int32) else (F196 a b c 8 S)) = (-3))) → ((¬ (a < 0)) ∧ (¬ (((if ((F196 a b c 8 S) = 0) then (G205 a c d e (G196 a b c 8 S)) else (G196 a b c 8 S)) 5 0) ≤ a))) → (((G102 (if ((¬ (a < 0)) ∧ (¬ (((if ((F196 a b c 8 S) = 0) then (G205 a c d e (G196 a b c 8 S)) else (G196 a b c 8 S)) 5 0) ≤ a))) then (a : Int32) else 0) c 8 (if ((F196 a b c 8 S) = 0) then ((F205 a c d e (G196 a b c 8 S)) : Int32) else (F196 a b c 8 S)) (if ((F196 a b c 8 S) = 0) then (G205 a c d e (G196 a b c 8 S)) else (G196 a b c 8 S))) 37 a.toNatClampNeg) = 0) → (((G102 (if ((¬ (a < 0)) ∧ (¬ (((if ((F196 a b c 8 S) = 0) then (G205 a c d e (G196 a b c 8 S)) else (G196 a b c 8 S)) 5 0) ≤ a))) then (a : Int32) else 0) c 8 (if ((F196 a b c 8 S) = 0) then ((F205 a c d e (G196 a b c 8 S)) : Int32) else (F196 a b c 8 S)) (if ((F196 a b c 8 S) = 0) then (G205 a c d e (G196 a b c 8 S)) else (G196 a b c 8 S))) 40 a.toNatClampNeg) = 0) → zn 10000 (a + 1)) (g13 : (((¬ (b < 0)) ∧ (¬ (4 ≤ b))) ∧ ((¬ (c < 0)) ∧ (¬ (216 ≤ c)))) → (((¬ (d < 1)) ∧ (¬ (50 < d))) ∧ ((¬ (e < d)) ∧ (¬ (100 < e)))) → zn 40 ((if ((F196 a b c 8 S) = 0) then (G205 a c d e (G196 a b c 8 S)) else (G196 a b c 8 S)) 6 0)) (g14 : (((¬ (b < 0)) ∧ (¬ (4 ≤ b))) ∧ ((¬ (c < 0)) ∧ (¬ (216 ≤ c)))) → (((¬ (d < 1)) ∧ (¬ (50 < d))) ∧ ((¬ (e < d)) ∧ (¬ (100 < e)))) → zA 40 40 ((if ((F196 a b c 8 S) = 0) then (G205 a c d e (G196 a b c 8 S)) else (G196 a b c 8 S)) 41)) (g15 : (((¬ (b < 0)) ∧ (¬ (4 ≤ b))) ∧ ((¬ (c < 0)) ∧ (¬ (216 ≤ c)))) → (((¬ (d < 1)) ∧ (¬ (50 < d))) ∧ ((¬ (e < d)) ∧ (¬ (100 < e)))) → zA 40 3 ((if ((F196 a b c 8 S) = 0) then (G205 a c d e (G196 a b c 8 S)) else (G196 a b c 8 S)) 43)) : zf L 352 [.inr (.inr 0), .inl a, .inl b, .inl c, .inl d, .inl e, .inr (.inr 148)] S (.inl (some (.inl (F352_0_148 a b c d e S))), (G352_0_148 a b c d e S), (E352_0_148 a b c d e S)) := zf_of (en_352 _ _ _ _ _ _ _) (zr_2_6 i352_0 (zr_0 i352_1 kc_0 (zr_2_0 i352_2 (zr_1_1 i352_3 (zr_1_2 i352_4 (zr_1_3 i352_5 (zr_1_4 i352_6 (zr_1_5 i352_7 (zt_cast (zr_callO (f163 a b c d e S (g0) (g1) (fun h4322 h4323 h4324 h4325 h4326 => (g2 h4322 h4323 h4324 h4325 h4326)) (fun h4327 h4328 h4329 h4330 h4331 => (g3 h4327 h4328 h4329 h4330 h4331)) (fun h4332 h4333 h4334 h4335 h4336 => (g4 h4332 h4333 h4334 h4335 h4336)) (fun h4337 h4338 h4339 h4340 h4341 h4342 h4343 h4344 => (g5 h4337 h4338 h4339 h4340 h4341 h4342 h4343 h4344)) (fun h4345 h4346 h4347 => (g6 h4345 h4346 h4347)) (fun h4348 h4349 h4350 h4351 h4352 => (g7 h4348 h4349 h4350 h4351 h4352)) (fun h4353 h4354 h4355 h4356 h4357 h4358 => (g8 h4353 h4354 h4355 h4356 h4357 h4358)) (fun h4359 h4360 h4361 h4362 h4363 h4364 => (g9 h4359 h4360 h4361 h4362 h4363 h4364)) (fun h4365 h4366 h4367 h4368 h4369 => (g10 h4365 h4366 h4367 h4368 h4369)) (g11) (fun h4370 h4371 h4372 h4373 h4374 h4375 h4376 => (g12 h4370 h4371 h4372 h4373 h4374 h4375 h4376)) (fun h4377 h4378 => (g13 h4377 h4378)) (fun h4379 h4380 => (g14 h4379 h4380)) (fun h4381 h4382 => (g15 h4381 h4382))) (fun h4383 h4385 => zt_cast (zr_callO h4385 (fun h4387 h4389 => zr_cv (zs_32_5 i352_8 na_163 ob_0 rfl) h4389 (zr_30 i352_9 (zr_31 i352_10 ar_148 (zx_1_0) kt_0 (zr_17 i352_11 (zr_0 i352_15 kc_0 (zr_25 i352_16)))))) (fun h4388 h4390 => zt_callH (zs_32_5 i352_8 na_163 ob_0 rfl) h4390 hd_352_1)) (zm_re zz_01 zz_e zz_e)) (fun h4384 h4386 => zt_callH (zs_32_5 i352_8 na_163 ob_0 rfl) h4386 hd_352_1)) (zm_re zz_b1 zz_e zz_e))))))))))
