/-! the law: facts of its code (wip/whole/gen/gen19.py) -/
theorem i324_0 : zi 324 0 1 2 0 0 := by decide +kernel
theorem i324_1 : zi 324 1 2 1 1 0 := by decide +kernel
theorem i324_2 : zi 324 2 3 1 2 0 := by decide +kernel
theorem i324_3 : zi 324 3 4 1 3 0 := by decide +kernel
theorem i324_4 : zi 324 4 5 32 131 11 := by decide +kernel
theorem na_131 : z_na 131 = 3 := by decide +kernel
theorem i324_5 : zi 324 5 6 17 12 0 := by decide +kernel
theorem i324_12 : zi 324 12 13 0 0 0 := by decide +kernel
theorem i324_13 : zi 324 13 14 25 0 0 := by decide +kernel
theorem hd_324_2 : z_hd (z_th 324) 2 = some 2 := by decide +kernel
theorem hd_324_1 : z_hd (z_th 324) 1 = some 1 := by decide +kernel
theorem ml_324 : z_ml 324 = 5 := by decide +kernel
theorem en_324 : ∀ (v0 v1 v2 v3 : zV), z_ent 324 [v0, v1, v2, v3] = [some v0, some v1, some v2, some v3, none] := fun v0 v1 v2 v3 => by unfold z_ent; rw [ml_324]; rfl
theorem i325_0 : zi 325 0 1 2 2 0 := by decide +kernel
theorem i325_1 : zi 325 1 2 0 0 0 := by decide +kernel
theorem i325_2 : zi 325 2 3 2 0 0 := by decide +kernel
theorem i325_3 : zi 325 3 4 1 1 0 := by decide +kernel
theorem i325_4 : zi 325 4 5 32 132 11 := by decide +kernel
theorem na_132 : z_na 132 = 1 := by decide +kernel
theorem i325_5 : zi 325 5 6 30 0 0 := by decide +kernel
theorem i325_6 : zi 325 6 7 31 0 0 := by decide +kernel
theorem zx_1_0 : zx 1 0 := by unfold zx; decide
theorem ar_148 : zar 148 2 1 := by decide +kernel
theorem i325_7 : zi 325 7 8 17 11 0 := by decide +kernel
theorem i325_11 : zi 325 11 12 0 0 0 := by decide +kernel
theorem i325_12 : zi 325 12 13 25 0 0 := by decide +kernel
theorem hd_325_0 : z_hd (z_th 325) 0 = some 1 := by decide +kernel
theorem ml_325 : z_ml 325 = 4 := by decide +kernel
theorem en_325 : ∀ (v0 v1 v2 : zV), z_ent 325 [v0, v1, v2] = [some v0, some v1, some v2, none] := fun v0 v1 v2 => by unfold z_ent; rw [ml_325]; rfl
theorem i326_0 : zi 326 0 1 2 3 0 := by decide +kernel
theorem i326_1 : zi 326 1 2 0 0 0 := by decide +kernel
theorem i326_2 : zi 326 2 3 2 0 0 := by decide +kernel
theorem i326_3 : zi 326 3 4 1 1 0 := by decide +kernel
theorem i326_4 : zi 326 4 5 1 2 0 := by decide +kernel
theorem i326_5 : zi 326 5 6 32 133 11 := by decide +kernel
theorem na_133 : z_na 133 = 2 := by decide +kernel
theorem i326_6 : zi 326 6 7 30 0 0 := by decide +kernel
theorem i326_7 : zi 326 7 8 31 0 0 := by decide +kernel
theorem i326_8 : zi 326 8 9 17 18 0 := by decide +kernel
theorem i326_18 : zi 326 18 19 0 0 0 := by decide +kernel
theorem i326_19 : zi 326 19 20 25 0 0 := by decide +kernel
theorem hd_326_2 : z_hd (z_th 326) 2 = some 3 := by decide +kernel
theorem hd_326_1 : z_hd (z_th 326) 1 = some 2 := by decide +kernel
theorem hd_326_0 : z_hd (z_th 326) 0 = some 1 := by decide +kernel
theorem ml_326 : z_ml 326 = 5 := by decide +kernel
theorem en_326 : ∀ (v0 v1 v2 v3 : zV), z_ent 326 [v0, v1, v2, v3] = [some v0, some v1, some v2, some v3, none] := fun v0 v1 v2 v3 => by unfold z_ent; rw [ml_326]; rfl
theorem i327_0 : zi 327 0 1 2 0 0 := by decide +kernel
theorem i327_1 : zi 327 1 2 1 1 0 := by decide +kernel
theorem i327_2 : zi 327 2 3 1 2 0 := by decide +kernel
theorem i327_3 : zi 327 3 4 1 3 0 := by decide +kernel
theorem i327_4 : zi 327 4 5 32 136 11 := by decide +kernel
theorem na_136 : z_na 136 = 3 := by decide +kernel
theorem i327_5 : zi 327 5 6 17 12 0 := by decide +kernel
theorem i327_12 : zi 327 12 13 0 0 0 := by decide +kernel
theorem i327_13 : zi 327 13 14 25 0 0 := by decide +kernel
theorem hd_327_2 : z_hd (z_th 327) 2 = some 2 := by decide +kernel
theorem hd_327_1 : z_hd (z_th 327) 1 = some 1 := by decide +kernel
theorem ml_327 : z_ml 327 = 5 := by decide +kernel
theorem en_327 : ∀ (v0 v1 v2 v3 : zV), z_ent 327 [v0, v1, v2, v3] = [some v0, some v1, some v2, some v3, none] := fun v0 v1 v2 v3 => by unfold z_ent; rw [ml_327]; rfl
theorem i328_0 : zi 328 0 1 2 3 0 := by decide +kernel
theorem i328_1 : zi 328 1 2 0 0 0 := by decide +kernel
theorem i328_2 : zi 328 2 3 2 0 0 := by decide +kernel
theorem i328_3 : zi 328 3 4 1 1 0 := by decide +kernel
theorem i328_4 : zi 328 4 5 1 2 0 := by decide +kernel
theorem i328_5 : zi 328 5 6 32 137 11 := by decide +kernel
theorem na_137 : z_na 137 = 2 := by decide +kernel
theorem i328_6 : zi 328 6 7 30 0 0 := by decide +kernel
theorem i328_7 : zi 328 7 8 31 0 0 := by decide +kernel
theorem i328_8 : zi 328 8 9 17 18 0 := by decide +kernel
theorem i328_18 : zi 328 18 19 0 0 0 := by decide +kernel
theorem i328_19 : zi 328 19 20 25 0 0 := by decide +kernel
theorem hd_328_2 : z_hd (z_th 328) 2 = some 3 := by decide +kernel
theorem hd_328_1 : z_hd (z_th 328) 1 = some 2 := by decide +kernel
theorem hd_328_0 : z_hd (z_th 328) 0 = some 1 := by decide +kernel
theorem ml_328 : z_ml 328 = 5 := by decide +kernel
theorem en_328 : ∀ (v0 v1 v2 v3 : zV), z_ent 328 [v0, v1, v2, v3] = [some v0, some v1, some v2, some v3, none] := fun v0 v1 v2 v3 => by unfold z_ent; rw [ml_328]; rfl
theorem i329_0 : zi 329 0 1 2 0 0 := by decide +kernel
theorem i329_1 : zi 329 1 2 1 1 0 := by decide +kernel
theorem i329_2 : zi 329 2 3 1 2 0 := by decide +kernel
theorem i329_3 : zi 329 3 4 32 138 11 := by decide +kernel
theorem na_138 : z_na 138 = 2 := by decide +kernel
theorem i329_4 : zi 329 4 5 17 8 0 := by decide +kernel
theorem i329_8 : zi 329 8 9 0 0 0 := by decide +kernel
theorem i329_9 : zi 329 9 10 25 0 0 := by decide +kernel
theorem hd_329_1 : z_hd (z_th 329) 1 = some 1 := by decide +kernel
theorem ml_329 : z_ml 329 = 4 := by decide +kernel
theorem en_329 : ∀ (v0 v1 v2 : zV), z_ent 329 [v0, v1, v2] = [some v0, some v1, some v2, none] := fun v0 v1 v2 => by unfold z_ent; rw [ml_329]; rfl
theorem i330_0 : zi 330 0 1 2 2 0 := by decide +kernel
theorem i330_1 : zi 330 1 2 0 0 0 := by decide +kernel
theorem i330_2 : zi 330 2 3 2 0 0 := by decide +kernel
theorem i330_3 : zi 330 3 4 1 1 0 := by decide +kernel
theorem i330_4 : zi 330 4 5 32 140 11 := by decide +kernel
theorem na_140 : z_na 140 = 1 := by decide +kernel
theorem i330_5 : zi 330 5 6 30 0 0 := by decide +kernel
theorem i330_6 : zi 330 6 7 31 0 0 := by decide +kernel
theorem i330_7 : zi 330 7 8 17 11 0 := by decide +kernel
theorem i330_11 : zi 330 11 12 0 0 0 := by decide +kernel
theorem i330_12 : zi 330 12 13 25 0 0 := by decide +kernel
theorem hd_330_1 : z_hd (z_th 330) 1 = some 1 := by decide +kernel
theorem ml_330 : z_ml 330 = 4 := by decide +kernel
theorem en_330 : ∀ (v0 v1 v2 : zV), z_ent 330 [v0, v1, v2] = [some v0, some v1, some v2, none] := fun v0 v1 v2 => by unfold z_ent; rw [ml_330]; rfl
theorem i331_0 : zi 331 0 1 2 2 0 := by decide +kernel
theorem i331_1 : zi 331 1 2 0 0 0 := by decide +kernel
theorem i331_2 : zi 331 2 3 2 0 0 := by decide +kernel
theorem i331_3 : zi 331 3 4 1 1 0 := by decide +kernel
theorem i331_4 : zi 331 4 5 32 141 11 := by decide +kernel
theorem na_141 : z_na 141 = 1 := by decide +kernel
theorem i331_5 : zi 331 5 6 30 0 0 := by decide +kernel
theorem i331_6 : zi 331 6 7 31 0 0 := by decide +kernel
theorem i331_7 : zi 331 7 8 17 14 0 := by decide +kernel
theorem i331_14 : zi 331 14 15 0 0 0 := by decide +kernel
theorem i331_15 : zi 331 15 16 25 0 0 := by decide +kernel
theorem hd_331_2 : z_hd (z_th 331) 2 = some 2 := by decide +kernel
theorem hd_331_1 : z_hd (z_th 331) 1 = some 1 := by decide +kernel
theorem ml_331 : z_ml 331 = 4 := by decide +kernel
theorem en_331 : ∀ (v0 v1 v2 : zV), z_ent 331 [v0, v1, v2] = [some v0, some v1, some v2, none] := fun v0 v1 v2 => by unfold z_ent; rw [ml_331]; rfl
theorem i332_0 : zi 332 0 1 2 0 0 := by decide +kernel
theorem i332_1 : zi 332 1 2 1 1 0 := by decide +kernel
theorem i332_2 : zi 332 2 3 1 2 0 := by decide +kernel
theorem i332_3 : zi 332 3 4 1 3 0 := by decide +kernel
theorem i332_4 : zi 332 4 5 32 143 11 := by decide +kernel
theorem na_143 : z_na 143 = 3 := by decide +kernel
theorem i332_5 : zi 332 5 6 17 12 0 := by decide +kernel
theorem i332_12 : zi 332 12 13 0 0 0 := by decide +kernel
theorem i332_13 : zi 332 13 14 25 0 0 := by decide +kernel
theorem hd_332_2 : z_hd (z_th 332) 2 = some 2 := by decide +kernel
theorem hd_332_1 : z_hd (z_th 332) 1 = some 1 := by decide +kernel
theorem ml_332 : z_ml 332 = 5 := by decide +kernel
theorem en_332 : ∀ (v0 v1 v2 v3 : zV), z_ent 332 [v0, v1, v2, v3] = [some v0, some v1, some v2, some v3, none] := fun v0 v1 v2 v3 => by unfold z_ent; rw [ml_332]; rfl
theorem i333_0 : zi 333 0 1 2 3 0 := by decide +kernel
theorem i333_1 : zi 333 1 2 0 0 0 := by decide +kernel
theorem i333_2 : zi 333 2 3 2 0 0 := by decide +kernel
theorem i333_3 : zi 333 3 4 1 1 0 := by decide +kernel
theorem i333_4 : zi 333 4 5 1 2 0 := by decide +kernel
theorem i333_5 : zi 333 5 6 32 144 11 := by decide +kernel
theorem na_144 : z_na 144 = 2 := by decide +kernel
theorem i333_6 : zi 333 6 7 30 0 0 := by decide +kernel
theorem i333_7 : zi 333 7 8 31 0 0 := by decide +kernel
theorem i333_8 : zi 333 8 9 17 12 0 := by decide +kernel
theorem i333_12 : zi 333 12 13 0 0 0 := by decide +kernel
theorem i333_13 : zi 333 13 14 25 0 0 := by decide +kernel
theorem hd_333_1 : z_hd (z_th 333) 1 = some 1 := by decide +kernel
theorem ml_333 : z_ml 333 = 5 := by decide +kernel
theorem en_333 : ∀ (v0 v1 v2 v3 : zV), z_ent 333 [v0, v1, v2, v3] = [some v0, some v1, some v2, some v3, none] := fun v0 v1 v2 v3 => by unfold z_ent; rw [ml_333]; rfl
theorem i334_0 : zi 334 0 1 2 7 0 := by decide +kernel
theorem i334_1 : zi 334 1 2 0 0 0 := by decide +kernel
theorem i334_2 : zi 334 2 3 2 0 0 := by decide +kernel
theorem i334_3 : zi 334 3 4 1 1 0 := by decide +kernel
theorem i334_4 : zi 334 4 5 1 2 0 := by decide +kernel
theorem i334_5 : zi 334 5 6 1 3 0 := by decide +kernel
theorem i334_6 : zi 334 6 7 1 4 0 := by decide +kernel
theorem i334_7 : zi 334 7 8 1 5 0 := by decide +kernel
theorem i334_8 : zi 334 8 9 1 6 0 := by decide +kernel
theorem i334_9 : zi 334 9 10 32 145 11 := by decide +kernel
theorem na_145 : z_na 145 = 6 := by decide +kernel
theorem i334_10 : zi 334 10 11 30 0 0 := by decide +kernel
theorem i334_11 : zi 334 11 12 31 0 0 := by decide +kernel
theorem i334_12 : zi 334 12 13 17 22 0 := by decide +kernel
theorem i334_22 : zi 334 22 23 0 0 0 := by decide +kernel
theorem i334_23 : zi 334 23 24 25 0 0 := by decide +kernel
theorem hd_334_2 : z_hd (z_th 334) 2 = some 3 := by decide +kernel
theorem hd_334_1 : z_hd (z_th 334) 1 = some 2 := by decide +kernel
theorem hd_334_0 : z_hd (z_th 334) 0 = some 1 := by decide +kernel
theorem ml_334 : z_ml 334 = 9 := by decide +kernel
theorem en_334 : ∀ (v0 v1 v2 v3 v4 v5 v6 v7 : zV), z_ent 334 [v0, v1, v2, v3, v4, v5, v6, v7] = [some v0, some v1, some v2, some v3, some v4, some v5, some v6, some v7, none] := fun v0 v1 v2 v3 v4 v5 v6 v7 => by unfold z_ent; rw [ml_334]; rfl
theorem i335_0 : zi 335 0 1 2 2 0 := by decide +kernel
theorem i335_1 : zi 335 1 2 0 0 0 := by decide +kernel
theorem i335_2 : zi 335 2 3 2 0 0 := by decide +kernel
theorem i335_3 : zi 335 3 4 1 1 0 := by decide +kernel
theorem i335_4 : zi 335 4 5 32 146 11 := by decide +kernel
theorem na_146 : z_na 146 = 1 := by decide +kernel
theorem i335_5 : zi 335 5 6 30 0 0 := by decide +kernel
theorem i335_6 : zi 335 6 7 31 0 0 := by decide +kernel
theorem i335_7 : zi 335 7 8 17 11 0 := by decide +kernel
theorem i335_11 : zi 335 11 12 0 0 0 := by decide +kernel
theorem i335_12 : zi 335 12 13 25 0 0 := by decide +kernel
theorem hd_335_0 : z_hd (z_th 335) 0 = some 1 := by decide +kernel
theorem ml_335 : z_ml 335 = 4 := by decide +kernel
theorem en_335 : ∀ (v0 v1 v2 : zV), z_ent 335 [v0, v1, v2] = [some v0, some v1, some v2, none] := fun v0 v1 v2 => by unfold z_ent; rw [ml_335]; rfl
theorem i336_0 : zi 336 0 1 2 4 0 := by decide +kernel
theorem i336_1 : zi 336 1 2 0 0 0 := by decide +kernel
theorem i336_2 : zi 336 2 3 2 0 0 := by decide +kernel
theorem i336_3 : zi 336 3 4 1 1 0 := by decide +kernel
theorem i336_4 : zi 336 4 5 1 2 0 := by decide +kernel
theorem i336_5 : zi 336 5 6 1 3 0 := by decide +kernel
theorem i336_6 : zi 336 6 7 32 147 11 := by decide +kernel
theorem na_147 : z_na 147 = 3 := by decide +kernel
theorem i336_7 : zi 336 7 8 30 0 0 := by decide +kernel
theorem i336_8 : zi 336 8 9 31 0 0 := by decide +kernel
theorem i336_9 : zi 336 9 10 17 16 0 := by decide +kernel
theorem i336_16 : zi 336 16 17 0 0 0 := by decide +kernel
theorem i336_17 : zi 336 17 18 25 0 0 := by decide +kernel
theorem hd_336_1 : z_hd (z_th 336) 1 = some 2 := by decide +kernel
theorem hd_336_0 : z_hd (z_th 336) 0 = some 1 := by decide +kernel
theorem ml_336 : z_ml 336 = 6 := by decide +kernel
theorem en_336 : ∀ (v0 v1 v2 v3 v4 : zV), z_ent 336 [v0, v1, v2, v3, v4] = [some v0, some v1, some v2, some v3, some v4, none] := fun v0 v1 v2 v3 v4 => by unfold z_ent; rw [ml_336]; rfl
theorem i337_0 : zi 337 0 1 2 4 0 := by decide +kernel
theorem i337_1 : zi 337 1 2 0 0 0 := by decide +kernel
theorem i337_2 : zi 337 2 3 2 0 0 := by decide +kernel
theorem i337_3 : zi 337 3 4 1 1 0 := by decide +kernel
theorem i337_4 : zi 337 4 5 1 2 0 := by decide +kernel
theorem i337_5 : zi 337 5 6 1 3 0 := by decide +kernel
theorem i337_6 : zi 337 6 7 32 148 11 := by decide +kernel
theorem na_148 : z_na 148 = 3 := by decide +kernel
theorem i337_7 : zi 337 7 8 30 0 0 := by decide +kernel
theorem i337_8 : zi 337 8 9 31 0 0 := by decide +kernel
theorem i337_9 : zi 337 9 10 17 13 0 := by decide +kernel
theorem i337_13 : zi 337 13 14 0 0 0 := by decide +kernel
theorem i337_14 : zi 337 14 15 25 0 0 := by decide +kernel
theorem hd_337_0 : z_hd (z_th 337) 0 = some 1 := by decide +kernel
theorem ml_337 : z_ml 337 = 6 := by decide +kernel
theorem en_337 : ∀ (v0 v1 v2 v3 v4 : zV), z_ent 337 [v0, v1, v2, v3, v4] = [some v0, some v1, some v2, some v3, some v4, none] := fun v0 v1 v2 v3 v4 => by unfold z_ent; rw [ml_337]; rfl
theorem i338_0 : zi 338 0 1 2 3 0 := by decide +kernel
theorem i338_1 : zi 338 1 2 0 0 0 := by decide +kernel
theorem i338_2 : zi 338 2 3 2 0 0 := by decide +kernel
theorem i338_3 : zi 338 3 4 1 1 0 := by decide +kernel
theorem i338_4 : zi 338 4 5 1 2 0 := by decide +kernel
theorem i338_5 : zi 338 5 6 32 149 11 := by decide +kernel
theorem na_149 : z_na 149 = 2 := by decide +kernel
theorem i338_6 : zi 338 6 7 30 0 0 := by decide +kernel
theorem i338_7 : zi 338 7 8 31 0 0 := by decide +kernel
theorem i338_8 : zi 338 8 9 17 15 0 := by decide +kernel
theorem i338_15 : zi 338 15 16 0 0 0 := by decide +kernel
theorem i338_16 : zi 338 16 17 25 0 0 := by decide +kernel
theorem hd_338_1 : z_hd (z_th 338) 1 = some 2 := by decide +kernel
theorem hd_338_0 : z_hd (z_th 338) 0 = some 1 := by decide +kernel
theorem ml_338 : z_ml 338 = 5 := by decide +kernel
theorem en_338 : ∀ (v0 v1 v2 v3 : zV), z_ent 338 [v0, v1, v2, v3] = [some v0, some v1, some v2, some v3, none] := fun v0 v1 v2 v3 => by unfold z_ent; rw [ml_338]; rfl
theorem i339_0 : zi 339 0 1 2 5 0 := by decide +kernel
theorem i339_1 : zi 339 1 2 0 0 0 := by decide +kernel
theorem i339_2 : zi 339 2 3 2 0 0 := by decide +kernel
theorem i339_3 : zi 339 3 4 1 1 0 := by decide +kernel
theorem i339_4 : zi 339 4 5 1 2 0 := by decide +kernel
theorem i339_5 : zi 339 5 6 1 3 0 := by decide +kernel
theorem i339_6 : zi 339 6 7 1 4 0 := by decide +kernel
theorem i339_7 : zi 339 7 8 32 150 11 := by decide +kernel
theorem na_150 : z_na 150 = 4 := by decide +kernel
theorem i339_8 : zi 339 8 9 18 11 0 := by decide +kernel
theorem i339_9 : zi 339 9 10 39 0 1 := by decide +kernel
theorem i339_10 : zi 339 10 11 17 12 0 := by decide +kernel
theorem i339_11 : zi 339 11 12 39 0 0 := by decide +kernel
theorem i339_12 : zi 339 12 13 31 0 0 := by decide +kernel
theorem i339_13 : zi 339 13 14 17 17 0 := by decide +kernel
theorem i339_17 : zi 339 17 18 0 0 0 := by decide +kernel
theorem i339_18 : zi 339 18 19 25 0 0 := by decide +kernel
theorem hd_339_0 : z_hd (z_th 339) 0 = some 1 := by decide +kernel
theorem ml_339 : z_ml 339 = 7 := by decide +kernel
theorem en_339 : ∀ (v0 v1 v2 v3 v4 v5 : zV), z_ent 339 [v0, v1, v2, v3, v4, v5] = [some v0, some v1, some v2, some v3, some v4, some v5, none] := fun v0 v1 v2 v3 v4 v5 => by unfold z_ent; rw [ml_339]; rfl
theorem i340_0 : zi 340 0 1 2 3 0 := by decide +kernel
theorem i340_1 : zi 340 1 2 0 0 0 := by decide +kernel
theorem i340_2 : zi 340 2 3 2 0 0 := by decide +kernel
theorem i340_3 : zi 340 3 4 1 1 0 := by decide +kernel
theorem i340_4 : zi 340 4 5 1 2 0 := by decide +kernel
theorem i340_5 : zi 340 5 6 32 151 11 := by decide +kernel
theorem na_151 : z_na 151 = 2 := by decide +kernel
theorem i340_6 : zi 340 6 7 30 0 0 := by decide +kernel
theorem i340_7 : zi 340 7 8 31 0 0 := by decide +kernel
theorem i340_8 : zi 340 8 9 17 12 0 := by decide +kernel
theorem i340_12 : zi 340 12 13 0 0 0 := by decide +kernel
theorem i340_13 : zi 340 13 14 25 0 0 := by decide +kernel
theorem hd_340_0 : z_hd (z_th 340) 0 = some 1 := by decide +kernel
theorem ml_340 : z_ml 340 = 5 := by decide +kernel
theorem en_340 : ∀ (v0 v1 v2 v3 : zV), z_ent 340 [v0, v1, v2, v3] = [some v0, some v1, some v2, some v3, none] := fun v0 v1 v2 v3 => by unfold z_ent; rw [ml_340]; rfl
theorem i341_0 : zi 341 0 1 2 9 0 := by decide +kernel
theorem i341_1 : zi 341 1 2 0 0 0 := by decide +kernel
theorem i341_2 : zi 341 2 3 2 0 0 := by decide +kernel
theorem i341_3 : zi 341 3 4 1 1 0 := by decide +kernel
theorem i341_4 : zi 341 4 5 1 2 0 := by decide +kernel
theorem i341_5 : zi 341 5 6 1 3 0 := by decide +kernel
theorem i341_6 : zi 341 6 7 1 4 0 := by decide +kernel
theorem i341_7 : zi 341 7 8 1 5 0 := by decide +kernel
theorem i341_8 : zi 341 8 9 1 6 0 := by decide +kernel
theorem i341_9 : zi 341 9 10 1 7 0 := by decide +kernel
theorem i341_10 : zi 341 10 11 1 8 0 := by decide +kernel
theorem i341_11 : zi 341 11 12 32 152 11 := by decide +kernel
theorem na_152 : z_na 152 = 8 := by decide +kernel
theorem i341_12 : zi 341 12 13 30 0 0 := by decide +kernel
theorem i341_13 : zi 341 13 14 31 0 0 := by decide +kernel
theorem i341_14 : zi 341 14 15 17 18 0 := by decide +kernel
theorem i341_18 : zi 341 18 19 0 0 0 := by decide +kernel
theorem i341_19 : zi 341 19 20 25 0 0 := by decide +kernel
theorem hd_341_1 : z_hd (z_th 341) 1 = some 1 := by decide +kernel
theorem ml_341 : z_ml 341 = 11 := by decide +kernel
theorem en_341 : ∀ (v0 v1 v2 v3 v4 v5 v6 v7 v8 v9 : zV), z_ent 341 [v0, v1, v2, v3, v4, v5, v6, v7, v8, v9] = [some v0, some v1, some v2, some v3, some v4, some v5, some v6, some v7, some v8, some v9, none] := fun v0 v1 v2 v3 v4 v5 v6 v7 v8 v9 => by unfold z_ent; rw [ml_341]; rfl
theorem i342_0 : zi 342 0 1 2 3 0 := by decide +kernel
theorem i342_1 : zi 342 1 2 0 0 0 := by decide +kernel
theorem i342_2 : zi 342 2 3 2 0 0 := by decide +kernel
theorem i342_3 : zi 342 3 4 1 1 0 := by decide +kernel
theorem i342_4 : zi 342 4 5 1 2 0 := by decide +kernel
theorem i342_5 : zi 342 5 6 32 153 11 := by decide +kernel
theorem na_153 : z_na 153 = 2 := by decide +kernel
theorem i342_6 : zi 342 6 7 30 0 0 := by decide +kernel
theorem i342_7 : zi 342 7 8 31 0 0 := by decide +kernel
theorem i342_8 : zi 342 8 9 17 15 0 := by decide +kernel
theorem i342_15 : zi 342 15 16 0 0 0 := by decide +kernel
theorem i342_16 : zi 342 16 17 25 0 0 := by decide +kernel
theorem hd_342_1 : z_hd (z_th 342) 1 = some 2 := by decide +kernel
theorem hd_342_0 : z_hd (z_th 342) 0 = some 1 := by decide +kernel
theorem ml_342 : z_ml 342 = 5 := by decide +kernel
theorem en_342 : ∀ (v0 v1 v2 v3 : zV), z_ent 342 [v0, v1, v2, v3] = [some v0, some v1, some v2, some v3, none] := fun v0 v1 v2 v3 => by unfold z_ent; rw [ml_342]; rfl
theorem i343_0 : zi 343 0 1 2 2 0 := by decide +kernel
theorem i343_1 : zi 343 1 2 0 0 0 := by decide +kernel
theorem i343_2 : zi 343 2 3 2 0 0 := by decide +kernel
theorem i343_3 : zi 343 3 4 1 1 0 := by decide +kernel
theorem i343_4 : zi 343 4 5 32 154 11 := by decide +kernel
theorem na_154 : z_na 154 = 1 := by decide +kernel
theorem i343_5 : zi 343 5 6 30 0 0 := by decide +kernel
theorem i343_6 : zi 343 6 7 31 0 0 := by decide +kernel
theorem i343_7 : zi 343 7 8 17 11 0 := by decide +kernel
theorem i343_11 : zi 343 11 12 0 0 0 := by decide +kernel
theorem i343_12 : zi 343 12 13 25 0 0 := by decide +kernel
theorem hd_343_0 : z_hd (z_th 343) 0 = some 1 := by decide +kernel
theorem ml_343 : z_ml 343 = 4 := by decide +kernel
theorem en_343 : ∀ (v0 v1 v2 : zV), z_ent 343 [v0, v1, v2] = [some v0, some v1, some v2, none] := fun v0 v1 v2 => by unfold z_ent; rw [ml_343]; rfl
theorem i344_0 : zi 344 0 1 2 2 0 := by decide +kernel
theorem i344_1 : zi 344 1 2 0 0 0 := by decide +kernel
theorem i344_2 : zi 344 2 3 2 0 0 := by decide +kernel
theorem i344_3 : zi 344 3 4 1 1 0 := by decide +kernel
theorem i344_4 : zi 344 4 5 32 155 11 := by decide +kernel
theorem na_155 : z_na 155 = 1 := by decide +kernel
theorem i344_5 : zi 344 5 6 30 0 0 := by decide +kernel
theorem i344_6 : zi 344 6 7 31 0 0 := by decide +kernel
theorem i344_7 : zi 344 7 8 17 11 0 := by decide +kernel
theorem i344_11 : zi 344 11 12 0 0 0 := by decide +kernel
theorem i344_12 : zi 344 12 13 25 0 0 := by decide +kernel
theorem hd_344_0 : z_hd (z_th 344) 0 = some 1 := by decide +kernel
theorem ml_344 : z_ml 344 = 4 := by decide +kernel
theorem en_344 : ∀ (v0 v1 v2 : zV), z_ent 344 [v0, v1, v2] = [some v0, some v1, some v2, none] := fun v0 v1 v2 => by unfold z_ent; rw [ml_344]; rfl
theorem i345_0 : zi 345 0 1 2 2 0 := by decide +kernel
theorem i345_1 : zi 345 1 2 0 0 0 := by decide +kernel
theorem i345_2 : zi 345 2 3 2 0 0 := by decide +kernel
theorem i345_3 : zi 345 3 4 1 1 0 := by decide +kernel
theorem i345_4 : zi 345 4 5 32 156 11 := by decide +kernel
theorem na_156 : z_na 156 = 1 := by decide +kernel
theorem i345_5 : zi 345 5 6 18 8 0 := by decide +kernel
theorem i345_6 : zi 345 6 7 39 0 1 := by decide +kernel
theorem i345_7 : zi 345 7 8 17 9 0 := by decide +kernel
theorem i345_8 : zi 345 8 9 39 0 0 := by decide +kernel
theorem i345_9 : zi 345 9 10 31 0 0 := by decide +kernel
theorem i345_10 : zi 345 10 11 17 14 0 := by decide +kernel
theorem i345_14 : zi 345 14 15 0 0 0 := by decide +kernel
theorem i345_15 : zi 345 15 16 25 0 0 := by decide +kernel
theorem hd_345_0 : z_hd (z_th 345) 0 = some 1 := by decide +kernel
theorem ml_345 : z_ml 345 = 4 := by decide +kernel
theorem en_345 : ∀ (v0 v1 v2 : zV), z_ent 345 [v0, v1, v2] = [some v0, some v1, some v2, none] := fun v0 v1 v2 => by unfold z_ent; rw [ml_345]; rfl
theorem i346_0 : zi 346 0 1 2 3 0 := by decide +kernel
theorem i346_1 : zi 346 1 2 0 0 0 := by decide +kernel
theorem i346_2 : zi 346 2 3 2 0 0 := by decide +kernel
theorem i346_3 : zi 346 3 4 1 1 0 := by decide +kernel
theorem i346_4 : zi 346 4 5 1 2 0 := by decide +kernel
theorem i346_5 : zi 346 5 6 32 157 11 := by decide +kernel
theorem na_157 : z_na 157 = 2 := by decide +kernel
theorem i346_6 : zi 346 6 7 30 0 0 := by decide +kernel
theorem i346_7 : zi 346 7 8 31 0 0 := by decide +kernel
theorem i346_8 : zi 346 8 9 17 15 0 := by decide +kernel
theorem i346_15 : zi 346 15 16 0 0 0 := by decide +kernel
theorem i346_16 : zi 346 16 17 25 0 0 := by decide +kernel
theorem hd_346_1 : z_hd (z_th 346) 1 = some 2 := by decide +kernel
theorem hd_346_0 : z_hd (z_th 346) 0 = some 1 := by decide +kernel
theorem ml_346 : z_ml 346 = 5 := by decide +kernel
theorem en_346 : ∀ (v0 v1 v2 v3 : zV), z_ent 346 [v0, v1, v2, v3] = [some v0, some v1, some v2, some v3, none] := fun v0 v1 v2 v3 => by unfold z_ent; rw [ml_346]; rfl
theorem i347_0 : zi 347 0 1 2 5 0 := by decide +kernel
theorem i347_1 : zi 347 1 2 0 0 0 := by decide +kernel
theorem i347_2 : zi 347 2 3 2 0 0 := by decide +kernel
theorem i347_3 : zi 347 3 4 1 1 0 := by decide +kernel
theorem i347_4 : zi 347 4 5 1 2 0 := by decide +kernel
theorem i347_5 : zi 347 5 6 1 3 0 := by decide +kernel
theorem i347_6 : zi 347 6 7 1 4 0 := by decide +kernel
theorem i347_7 : zi 347 7 8 32 158 11 := by decide +kernel
theorem na_158 : z_na 158 = 4 := by decide +kernel
theorem i347_8 : zi 347 8 9 30 0 0 := by decide +kernel
theorem i347_9 : zi 347 9 10 31 0 0 := by decide +kernel
theorem i347_10 : zi 347 10 11 17 14 0 := by decide +kernel
theorem i347_14 : zi 347 14 15 0 0 0 := by decide +kernel
theorem i347_15 : zi 347 15 16 25 0 0 := by decide +kernel
theorem hd_347_1 : z_hd (z_th 347) 1 = some 1 := by decide +kernel
theorem ml_347 : z_ml 347 = 7 := by decide +kernel
theorem en_347 : ∀ (v0 v1 v2 v3 v4 v5 : zV), z_ent 347 [v0, v1, v2, v3, v4, v5] = [some v0, some v1, some v2, some v3, some v4, some v5, none] := fun v0 v1 v2 v3 v4 v5 => by unfold z_ent; rw [ml_347]; rfl
theorem i348_0 : zi 348 0 1 2 6 0 := by decide +kernel
theorem i348_1 : zi 348 1 2 0 0 0 := by decide +kernel
theorem i348_2 : zi 348 2 3 2 0 0 := by decide +kernel
theorem i348_3 : zi 348 3 4 1 1 0 := by decide +kernel
theorem i348_4 : zi 348 4 5 1 2 0 := by decide +kernel
theorem i348_5 : zi 348 5 6 1 3 0 := by decide +kernel
theorem i348_6 : zi 348 6 7 1 4 0 := by decide +kernel
theorem i348_7 : zi 348 7 8 1 5 0 := by decide +kernel
theorem i348_8 : zi 348 8 9 32 159 11 := by decide +kernel
theorem na_159 : z_na 159 = 5 := by decide +kernel
theorem i348_9 : zi 348 9 10 30 0 0 := by decide +kernel
theorem i348_10 : zi 348 10 11 31 0 0 := by decide +kernel
theorem i348_11 : zi 348 11 12 17 15 0 := by decide +kernel
theorem i348_15 : zi 348 15 16 0 0 0 := by decide +kernel
theorem i348_16 : zi 348 16 17 25 0 0 := by decide +kernel
theorem hd_348_1 : z_hd (z_th 348) 1 = some 1 := by decide +kernel
theorem ml_348 : z_ml 348 = 8 := by decide +kernel
theorem en_348 : ∀ (v0 v1 v2 v3 v4 v5 v6 : zV), z_ent 348 [v0, v1, v2, v3, v4, v5, v6] = [some v0, some v1, some v2, some v3, some v4, some v5, some v6, none] := fun v0 v1 v2 v3 v4 v5 v6 => by unfold z_ent; rw [ml_348]; rfl
theorem i349_0 : zi 349 0 1 2 6 0 := by decide +kernel
theorem i349_1 : zi 349 1 2 0 0 0 := by decide +kernel
theorem i349_2 : zi 349 2 3 2 0 0 := by decide +kernel
theorem i349_3 : zi 349 3 4 1 1 0 := by decide +kernel
theorem i349_4 : zi 349 4 5 1 2 0 := by decide +kernel
theorem i349_5 : zi 349 5 6 1 3 0 := by decide +kernel
theorem i349_6 : zi 349 6 7 1 4 0 := by decide +kernel
theorem i349_7 : zi 349 7 8 1 5 0 := by decide +kernel
theorem i349_8 : zi 349 8 9 32 160 11 := by decide +kernel
theorem na_160 : z_na 160 = 5 := by decide +kernel
theorem i349_9 : zi 349 9 10 30 0 0 := by decide +kernel
theorem i349_10 : zi 349 10 11 31 0 0 := by decide +kernel
theorem i349_11 : zi 349 11 12 17 15 0 := by decide +kernel
theorem i349_15 : zi 349 15 16 0 0 0 := by decide +kernel
theorem i349_16 : zi 349 16 17 25 0 0 := by decide +kernel
theorem hd_349_1 : z_hd (z_th 349) 1 = some 1 := by decide +kernel
theorem ml_349 : z_ml 349 = 8 := by decide +kernel
theorem en_349 : ∀ (v0 v1 v2 v3 v4 v5 v6 : zV), z_ent 349 [v0, v1, v2, v3, v4, v5, v6] = [some v0, some v1, some v2, some v3, some v4, some v5, some v6, none] := fun v0 v1 v2 v3 v4 v5 v6 => by unfold z_ent; rw [ml_349]; rfl
theorem i350_0 : zi 350 0 1 2 3 0 := by decide +kernel
theorem i350_1 : zi 350 1 2 0 0 0 := by decide +kernel
theorem i350_2 : zi 350 2 3 2 0 0 := by decide +kernel
theorem i350_3 : zi 350 3 4 1 1 0 := by decide +kernel
theorem i350_4 : zi 350 4 5 1 2 0 := by decide +kernel
theorem i350_5 : zi 350 5 6 32 161 11 := by decide +kernel
theorem na_161 : z_na 161 = 2 := by decide +kernel
theorem i350_6 : zi 350 6 7 30 0 0 := by decide +kernel
theorem i350_7 : zi 350 7 8 31 0 0 := by decide +kernel
theorem i350_8 : zi 350 8 9 17 12 0 := by decide +kernel
theorem i350_12 : zi 350 12 13 0 0 0 := by decide +kernel
theorem i350_13 : zi 350 13 14 25 0 0 := by decide +kernel
theorem hd_350_1 : z_hd (z_th 350) 1 = some 1 := by decide +kernel
theorem ml_350 : z_ml 350 = 5 := by decide +kernel
theorem en_350 : ∀ (v0 v1 v2 v3 : zV), z_ent 350 [v0, v1, v2, v3] = [some v0, some v1, some v2, some v3, none] := fun v0 v1 v2 v3 => by unfold z_ent; rw [ml_350]; rfl
theorem i351_0 : zi 351 0 1 2 3 0 := by decide +kernel
theorem i351_1 : zi 351 1 2 0 0 0 := by decide +kernel
theorem i351_2 : zi 351 2 3 2 0 0 := by decide +kernel
theorem i351_3 : zi 351 3 4 1 1 0 := by decide +kernel
theorem i351_4 : zi 351 4 5 1 2 0 := by decide +kernel
theorem i351_5 : zi 351 5 6 32 162 11 := by decide +kernel
theorem na_162 : z_na 162 = 2 := by decide +kernel
theorem i351_6 : zi 351 6 7 30 0 0 := by decide +kernel
theorem i351_7 : zi 351 7 8 31 0 0 := by decide +kernel
theorem i351_8 : zi 351 8 9 17 15 0 := by decide +kernel
theorem i351_15 : zi 351 15 16 0 0 0 := by decide +kernel
theorem i351_16 : zi 351 16 17 25 0 0 := by decide +kernel
theorem hd_351_1 : z_hd (z_th 351) 1 = some 2 := by decide +kernel
theorem hd_351_0 : z_hd (z_th 351) 0 = some 1 := by decide +kernel
theorem ml_351 : z_ml 351 = 5 := by decide +kernel
theorem en_351 : ∀ (v0 v1 v2 v3 : zV), z_ent 351 [v0, v1, v2, v3] = [some v0, some v1, some v2, some v3, none] := fun v0 v1 v2 v3 => by unfold z_ent; rw [ml_351]; rfl
theorem i352_0 : zi 352 0 1 2 6 0 := by decide +kernel
theorem i352_1 : zi 352 1 2 0 0 0 := by decide +kernel
theorem i352_2 : zi 352 2 3 2 0 0 := by decide +kernel
theorem i352_3 : zi 352 3 4 1 1 0 := by decide +kernel
theorem i352_4 : zi 352 4 5 1 2 0 := by decide +kernel
theorem i352_5 : zi 352 5 6 1 3 0 := by decide +kernel
theorem i352_6 : zi 352 6 7 1 4 0 := by decide +kernel
theorem i352_7 : zi 352 7 8 1 5 0 := by decide +kernel
theorem i352_8 : zi 352 8 9 32 163 11 := by decide +kernel
theorem na_163 : z_na 163 = 5 := by decide +kernel
theorem i352_9 : zi 352 9 10 30 0 0 := by decide +kernel
theorem i352_10 : zi 352 10 11 31 0 0 := by decide +kernel
theorem i352_11 : zi 352 11 12 17 15 0 := by decide +kernel
theorem i352_15 : zi 352 15 16 0 0 0 := by decide +kernel
theorem i352_16 : zi 352 16 17 25 0 0 := by decide +kernel
theorem hd_352_1 : z_hd (z_th 352) 1 = some 1 := by decide +kernel
theorem ml_352 : z_ml 352 = 8 := by decide +kernel
theorem en_352 : ∀ (v0 v1 v2 v3 v4 v5 v6 : zV), z_ent 352 [v0, v1, v2, v3, v4, v5, v6] = [some v0, some v1, some v2, some v3, some v4, some v5, some v6, none] := fun v0 v1 v2 v3 v4 v5 v6 => by unfold z_ent; rw [ml_352]; rfl
theorem i353_0 : zi 353 0 1 2 3 0 := by decide +kernel
theorem i353_1 : zi 353 1 2 0 0 0 := by decide +kernel
theorem i353_2 : zi 353 2 3 2 0 0 := by decide +kernel
theorem i353_3 : zi 353 3 4 1 1 0 := by decide +kernel
theorem i353_4 : zi 353 4 5 1 2 0 := by decide +kernel
theorem i353_5 : zi 353 5 6 32 164 11 := by decide +kernel
theorem na_164 : z_na 164 = 2 := by decide +kernel
theorem i353_6 : zi 353 6 7 30 0 0 := by decide +kernel
theorem i353_7 : zi 353 7 8 31 0 0 := by decide +kernel
theorem i353_8 : zi 353 8 9 17 15 0 := by decide +kernel
theorem i353_15 : zi 353 15 16 0 0 0 := by decide +kernel
theorem i353_16 : zi 353 16 17 25 0 0 := by decide +kernel
theorem hd_353_1 : z_hd (z_th 353) 1 = some 2 := by decide +kernel
theorem hd_353_0 : z_hd (z_th 353) 0 = some 1 := by decide +kernel
theorem ml_353 : z_ml 353 = 5 := by decide +kernel
theorem en_353 : ∀ (v0 v1 v2 v3 : zV), z_ent 353 [v0, v1, v2, v3] = [some v0, some v1, some v2, some v3, none] := fun v0 v1 v2 v3 => by unfold z_ent; rw [ml_353]; rfl
theorem i354_0 : zi 354 0 1 2 3 0 := by decide +kernel
theorem i354_1 : zi 354 1 2 0 0 0 := by decide +kernel
theorem i354_2 : zi 354 2 3 2 0 0 := by decide +kernel
theorem i354_3 : zi 354 3 4 1 1 0 := by decide +kernel
theorem i354_4 : zi 354 4 5 1 2 0 := by decide +kernel
theorem i354_5 : zi 354 5 6 32 165 11 := by decide +kernel
theorem na_165 : z_na 165 = 2 := by decide +kernel
theorem i354_6 : zi 354 6 7 30 0 0 := by decide +kernel
theorem i354_7 : zi 354 7 8 31 0 0 := by decide +kernel
theorem i354_8 : zi 354 8 9 17 12 0 := by decide +kernel
theorem i354_12 : zi 354 12 13 0 0 0 := by decide +kernel
theorem i354_13 : zi 354 13 14 25 0 0 := by decide +kernel
theorem hd_354_1 : z_hd (z_th 354) 1 = some 1 := by decide +kernel
theorem ml_354 : z_ml 354 = 5 := by decide +kernel
theorem en_354 : ∀ (v0 v1 v2 v3 : zV), z_ent 354 [v0, v1, v2, v3] = [some v0, some v1, some v2, some v3, none] := fun v0 v1 v2 v3 => by unfold z_ent; rw [ml_354]; rfl
theorem i355_0 : zi 355 0 1 2 2 0 := by decide +kernel
theorem i355_1 : zi 355 1 2 0 0 0 := by decide +kernel
theorem i355_2 : zi 355 2 3 2 0 0 := by decide +kernel
theorem i355_3 : zi 355 3 4 1 1 0 := by decide +kernel
theorem i355_4 : zi 355 4 5 32 166 11 := by decide +kernel
theorem na_166 : z_na 166 = 1 := by decide +kernel
theorem i355_5 : zi 355 5 6 30 0 0 := by decide +kernel
theorem i355_6 : zi 355 6 7 31 0 0 := by decide +kernel
theorem i355_7 : zi 355 7 8 17 11 0 := by decide +kernel
theorem i355_11 : zi 355 11 12 0 0 0 := by decide +kernel
theorem i355_12 : zi 355 12 13 25 0 0 := by decide +kernel
theorem hd_355_0 : z_hd (z_th 355) 0 = some 1 := by decide +kernel
theorem ml_355 : z_ml 355 = 4 := by decide +kernel
theorem en_355 : ∀ (v0 v1 v2 : zV), z_ent 355 [v0, v1, v2] = [some v0, some v1, some v2, none] := fun v0 v1 v2 => by unfold z_ent; rw [ml_355]; rfl
theorem i356_0 : zi 356 0 1 2 2 0 := by decide +kernel
theorem i356_1 : zi 356 1 2 0 0 0 := by decide +kernel
theorem i356_2 : zi 356 2 3 2 0 0 := by decide +kernel
theorem i356_3 : zi 356 3 4 1 1 0 := by decide +kernel
theorem i356_4 : zi 356 4 5 32 167 11 := by decide +kernel
theorem na_167 : z_na 167 = 1 := by decide +kernel
theorem i356_5 : zi 356 5 6 30 0 0 := by decide +kernel
theorem i356_6 : zi 356 6 7 31 0 0 := by decide +kernel
theorem i356_7 : zi 356 7 8 17 11 0 := by decide +kernel
theorem i356_11 : zi 356 11 12 0 0 0 := by decide +kernel
theorem i356_12 : zi 356 12 13 25 0 0 := by decide +kernel
theorem hd_356_0 : z_hd (z_th 356) 0 = some 1 := by decide +kernel
theorem ml_356 : z_ml 356 = 4 := by decide +kernel
theorem en_356 : ∀ (v0 v1 v2 : zV), z_ent 356 [v0, v1, v2] = [some v0, some v1, some v2, none] := fun v0 v1 v2 => by unfold z_ent; rw [ml_356]; rfl
theorem i357_0 : zi 357 0 1 2 2 0 := by decide +kernel
theorem i357_1 : zi 357 1 2 0 0 0 := by decide +kernel
theorem i357_2 : zi 357 2 3 2 0 0 := by decide +kernel
theorem i357_3 : zi 357 3 4 1 1 0 := by decide +kernel
theorem i357_4 : zi 357 4 5 32 168 11 := by decide +kernel
theorem na_168 : z_na 168 = 1 := by decide +kernel
theorem i357_5 : zi 357 5 6 30 0 0 := by decide +kernel
theorem i357_6 : zi 357 6 7 31 0 0 := by decide +kernel
theorem i357_7 : zi 357 7 8 17 11 0 := by decide +kernel
theorem i357_11 : zi 357 11 12 0 0 0 := by decide +kernel
theorem i357_12 : zi 357 12 13 25 0 0 := by decide +kernel
theorem hd_357_0 : z_hd (z_th 357) 0 = some 1 := by decide +kernel
theorem ml_357 : z_ml 357 = 4 := by decide +kernel
theorem en_357 : ∀ (v0 v1 v2 : zV), z_ent 357 [v0, v1, v2] = [some v0, some v1, some v2, none] := fun v0 v1 v2 => by unfold z_ent; rw [ml_357]; rfl
theorem i358_0 : zi 358 0 1 2 2 0 := by decide +kernel
theorem i358_1 : zi 358 1 2 0 0 0 := by decide +kernel
theorem i358_2 : zi 358 2 3 2 0 0 := by decide +kernel
theorem i358_3 : zi 358 3 4 1 1 0 := by decide +kernel
theorem i358_4 : zi 358 4 5 32 169 11 := by decide +kernel
theorem na_169 : z_na 169 = 1 := by decide +kernel
theorem i358_5 : zi 358 5 6 30 0 0 := by decide +kernel
theorem i358_6 : zi 358 6 7 31 0 0 := by decide +kernel
theorem i358_7 : zi 358 7 8 17 11 0 := by decide +kernel
theorem i358_11 : zi 358 11 12 0 0 0 := by decide +kernel
theorem i358_12 : zi 358 12 13 25 0 0 := by decide +kernel
theorem hd_358_0 : z_hd (z_th 358) 0 = some 1 := by decide +kernel
theorem ml_358 : z_ml 358 = 4 := by decide +kernel
theorem en_358 : ∀ (v0 v1 v2 : zV), z_ent 358 [v0, v1, v2] = [some v0, some v1, some v2, none] := fun v0 v1 v2 => by unfold z_ent; rw [ml_358]; rfl
theorem i359_0 : zi 359 0 1 2 5 0 := by decide +kernel
theorem i359_1 : zi 359 1 2 0 0 0 := by decide +kernel
theorem i359_2 : zi 359 2 3 2 0 0 := by decide +kernel
theorem i359_3 : zi 359 3 4 1 1 0 := by decide +kernel
theorem i359_4 : zi 359 4 5 1 2 0 := by decide +kernel
theorem i359_5 : zi 359 5 6 1 3 0 := by decide +kernel
theorem i359_6 : zi 359 6 7 1 4 0 := by decide +kernel
theorem i359_7 : zi 359 7 8 32 170 11 := by decide +kernel
theorem na_170 : z_na 170 = 4 := by decide +kernel
theorem i359_8 : zi 359 8 9 30 0 0 := by decide +kernel
theorem i359_9 : zi 359 9 10 31 0 0 := by decide +kernel
theorem i359_10 : zi 359 10 11 17 14 0 := by decide +kernel
theorem i359_14 : zi 359 14 15 0 0 0 := by decide +kernel
theorem i359_15 : zi 359 15 16 25 0 0 := by decide +kernel
theorem hd_359_1 : z_hd (z_th 359) 1 = some 1 := by decide +kernel
theorem ml_359 : z_ml 359 = 7 := by decide +kernel
theorem en_359 : ∀ (v0 v1 v2 v3 v4 v5 : zV), z_ent 359 [v0, v1, v2, v3, v4, v5] = [some v0, some v1, some v2, some v3, some v4, some v5, none] := fun v0 v1 v2 v3 v4 v5 => by unfold z_ent; rw [ml_359]; rfl
theorem i360_0 : zi 360 0 1 2 2 0 := by decide +kernel
theorem i360_1 : zi 360 1 2 0 0 0 := by decide +kernel
theorem i360_2 : zi 360 2 3 2 0 0 := by decide +kernel
theorem i360_3 : zi 360 3 4 1 1 0 := by decide +kernel
theorem i360_4 : zi 360 4 5 32 171 11 := by decide +kernel
theorem na_171 : z_na 171 = 1 := by decide +kernel
theorem i360_5 : zi 360 5 6 30 0 0 := by decide +kernel
theorem i360_6 : zi 360 6 7 31 0 0 := by decide +kernel
theorem i360_7 : zi 360 7 8 17 11 0 := by decide +kernel
theorem i360_11 : zi 360 11 12 0 0 0 := by decide +kernel
theorem i360_12 : zi 360 12 13 25 0 0 := by decide +kernel
theorem hd_360_0 : z_hd (z_th 360) 0 = some 1 := by decide +kernel
theorem ml_360 : z_ml 360 = 4 := by decide +kernel
theorem en_360 : ∀ (v0 v1 v2 : zV), z_ent 360 [v0, v1, v2] = [some v0, some v1, some v2, none] := fun v0 v1 v2 => by unfold z_ent; rw [ml_360]; rfl
theorem i361_0 : zi 361 0 1 2 4 0 := by decide +kernel
theorem i361_1 : zi 361 1 2 0 0 0 := by decide +kernel
theorem i361_2 : zi 361 2 3 2 0 0 := by decide +kernel
theorem i361_3 : zi 361 3 4 1 1 0 := by decide +kernel
theorem i361_4 : zi 361 4 5 1 2 0 := by decide +kernel
theorem i361_5 : zi 361 5 6 1 3 0 := by decide +kernel
theorem i361_6 : zi 361 6 7 32 172 11 := by decide +kernel
theorem na_172 : z_na 172 = 3 := by decide +kernel
theorem i361_7 : zi 361 7 8 30 0 0 := by decide +kernel
theorem i361_8 : zi 361 8 9 31 0 0 := by decide +kernel
theorem i361_9 : zi 361 9 10 17 16 0 := by decide +kernel
theorem i361_16 : zi 361 16 17 0 0 0 := by decide +kernel
theorem i361_17 : zi 361 17 18 25 0 0 := by decide +kernel
theorem hd_361_1 : z_hd (z_th 361) 1 = some 2 := by decide +kernel
theorem hd_361_0 : z_hd (z_th 361) 0 = some 1 := by decide +kernel
theorem ml_361 : z_ml 361 = 6 := by decide +kernel
theorem en_361 : ∀ (v0 v1 v2 v3 v4 : zV), z_ent 361 [v0, v1, v2, v3, v4] = [some v0, some v1, some v2, some v3, some v4, none] := fun v0 v1 v2 v3 v4 => by unfold z_ent; rw [ml_361]; rfl
theorem i362_0 : zi 362 0 1 2 4 0 := by decide +kernel
theorem i362_1 : zi 362 1 2 0 0 0 := by decide +kernel
theorem i362_2 : zi 362 2 3 2 0 0 := by decide +kernel
theorem i362_3 : zi 362 3 4 1 1 0 := by decide +kernel
theorem i362_4 : zi 362 4 5 1 2 0 := by decide +kernel
theorem i362_5 : zi 362 5 6 1 3 0 := by decide +kernel
theorem i362_6 : zi 362 6 7 32 173 11 := by decide +kernel
theorem na_173 : z_na 173 = 3 := by decide +kernel
theorem i362_7 : zi 362 7 8 30 0 0 := by decide +kernel
theorem i362_8 : zi 362 8 9 31 0 0 := by decide +kernel
theorem i362_9 : zi 362 9 10 17 16 0 := by decide +kernel
theorem i362_16 : zi 362 16 17 0 0 0 := by decide +kernel
theorem i362_17 : zi 362 17 18 25 0 0 := by decide +kernel
theorem hd_362_1 : z_hd (z_th 362) 1 = some 2 := by decide +kernel
theorem hd_362_0 : z_hd (z_th 362) 0 = some 1 := by decide +kernel
theorem ml_362 : z_ml 362 = 6 := by decide +kernel
theorem en_362 : ∀ (v0 v1 v2 v3 v4 : zV), z_ent 362 [v0, v1, v2, v3, v4] = [some v0, some v1, some v2, some v3, some v4, none] := fun v0 v1 v2 v3 v4 => by unfold z_ent; rw [ml_362]; rfl
theorem i363_0 : zi 363 0 1 2 5 0 := by decide +kernel
theorem i363_1 : zi 363 1 2 0 0 0 := by decide +kernel
theorem i363_2 : zi 363 2 3 2 0 0 := by decide +kernel
theorem i363_3 : zi 363 3 4 1 1 0 := by decide +kernel
theorem i363_4 : zi 363 4 5 1 2 0 := by decide +kernel
theorem i363_5 : zi 363 5 6 1 3 0 := by decide +kernel
theorem i363_6 : zi 363 6 7 1 4 0 := by decide +kernel
theorem i363_7 : zi 363 7 8 32 175 11 := by decide +kernel
theorem na_175 : z_na 175 = 4 := by decide +kernel
theorem i363_8 : zi 363 8 9 30 0 0 := by decide +kernel
theorem i363_9 : zi 363 9 10 31 0 0 := by decide +kernel
theorem i363_10 : zi 363 10 11 17 14 0 := by decide +kernel
theorem i363_14 : zi 363 14 15 0 0 0 := by decide +kernel
theorem i363_15 : zi 363 15 16 25 0 0 := by decide +kernel
theorem hd_363_1 : z_hd (z_th 363) 1 = some 1 := by decide +kernel
theorem ml_363 : z_ml 363 = 7 := by decide +kernel
theorem en_363 : ∀ (v0 v1 v2 v3 v4 v5 : zV), z_ent 363 [v0, v1, v2, v3, v4, v5] = [some v0, some v1, some v2, some v3, some v4, some v5, none] := fun v0 v1 v2 v3 v4 v5 => by unfold z_ent; rw [ml_363]; rfl
theorem i364_0 : zi 364 0 1 2 2 0 := by decide +kernel
theorem i364_1 : zi 364 1 2 0 0 0 := by decide +kernel
theorem i364_2 : zi 364 2 3 2 0 0 := by decide +kernel
theorem i364_3 : zi 364 3 4 1 1 0 := by decide +kernel
theorem i364_4 : zi 364 4 5 32 176 11 := by decide +kernel
theorem na_176 : z_na 176 = 1 := by decide +kernel
theorem i364_5 : zi 364 5 6 18 8 0 := by decide +kernel
theorem i364_6 : zi 364 6 7 39 0 1 := by decide +kernel
theorem i364_7 : zi 364 7 8 17 9 0 := by decide +kernel
theorem i364_8 : zi 364 8 9 39 0 0 := by decide +kernel
theorem i364_9 : zi 364 9 10 31 0 0 := by decide +kernel
theorem i364_10 : zi 364 10 11 17 14 0 := by decide +kernel
theorem i364_14 : zi 364 14 15 0 0 0 := by decide +kernel
theorem i364_15 : zi 364 15 16 25 0 0 := by decide +kernel
theorem hd_364_0 : z_hd (z_th 364) 0 = some 1 := by decide +kernel
theorem ml_364 : z_ml 364 = 4 := by decide +kernel
theorem en_364 : ∀ (v0 v1 v2 : zV), z_ent 364 [v0, v1, v2] = [some v0, some v1, some v2, none] := fun v0 v1 v2 => by unfold z_ent; rw [ml_364]; rfl
theorem i365_0 : zi 365 0 1 2 2 0 := by decide +kernel
theorem i365_1 : zi 365 1 2 0 0 0 := by decide +kernel
theorem i365_2 : zi 365 2 3 2 0 0 := by decide +kernel
theorem i365_3 : zi 365 3 4 1 1 0 := by decide +kernel
theorem i365_4 : zi 365 4 5 32 178 11 := by decide +kernel
theorem na_178 : z_na 178 = 1 := by decide +kernel
theorem i365_5 : zi 365 5 6 18 8 0 := by decide +kernel
theorem i365_8 : zi 365 8 9 39 0 0 := by decide +kernel
theorem i365_6 : zi 365 6 7 39 0 1 := by decide +kernel
theorem i365_7 : zi 365 7 8 17 9 0 := by decide +kernel
theorem i365_9 : zi 365 9 10 31 0 0 := by decide +kernel
theorem i365_10 : zi 365 10 11 17 14 0 := by decide +kernel
theorem i365_14 : zi 365 14 15 0 0 0 := by decide +kernel
theorem i365_15 : zi 365 15 16 25 0 0 := by decide +kernel
theorem hd_365_0 : z_hd (z_th 365) 0 = some 1 := by decide +kernel
theorem ml_365 : z_ml 365 = 4 := by decide +kernel
theorem en_365 : ∀ (v0 v1 v2 : zV), z_ent 365 [v0, v1, v2] = [some v0, some v1, some v2, none] := fun v0 v1 v2 => by unfold z_ent; rw [ml_365]; rfl
theorem i366_0 : zi 366 0 1 2 2 0 := by decide +kernel
theorem i366_1 : zi 366 1 2 0 0 0 := by decide +kernel
theorem i366_2 : zi 366 2 3 2 0 0 := by decide +kernel
theorem i366_3 : zi 366 3 4 1 1 0 := by decide +kernel
theorem i366_4 : zi 366 4 5 32 179 11 := by decide +kernel
theorem na_179 : z_na 179 = 1 := by decide +kernel
theorem i366_5 : zi 366 5 6 30 0 0 := by decide +kernel
theorem i366_6 : zi 366 6 7 31 0 0 := by decide +kernel
theorem i366_7 : zi 366 7 8 17 11 0 := by decide +kernel
theorem i366_11 : zi 366 11 12 0 0 0 := by decide +kernel
theorem i366_12 : zi 366 12 13 25 0 0 := by decide +kernel
theorem hd_366_0 : z_hd (z_th 366) 0 = some 1 := by decide +kernel
theorem ml_366 : z_ml 366 = 4 := by decide +kernel
theorem en_366 : ∀ (v0 v1 v2 : zV), z_ent 366 [v0, v1, v2] = [some v0, some v1, some v2, none] := fun v0 v1 v2 => by unfold z_ent; rw [ml_366]; rfl
theorem i367_0 : zi 367 0 1 2 5 0 := by decide +kernel
theorem i367_1 : zi 367 1 2 0 0 0 := by decide +kernel
theorem i367_2 : zi 367 2 3 2 0 0 := by decide +kernel
theorem i367_3 : zi 367 3 4 1 1 0 := by decide +kernel
theorem i367_4 : zi 367 4 5 1 2 0 := by decide +kernel
theorem i367_5 : zi 367 5 6 1 3 0 := by decide +kernel
theorem i367_6 : zi 367 6 7 1 4 0 := by decide +kernel
theorem i367_7 : zi 367 7 8 32 180 11 := by decide +kernel
theorem na_180 : z_na 180 = 4 := by decide +kernel
theorem i367_8 : zi 367 8 9 18 11 0 := by decide +kernel
theorem i367_11 : zi 367 11 12 39 0 0 := by decide +kernel
theorem i367_9 : zi 367 9 10 39 0 1 := by decide +kernel
theorem i367_10 : zi 367 10 11 17 12 0 := by decide +kernel
theorem i367_12 : zi 367 12 13 31 0 0 := by decide +kernel
theorem i367_13 : zi 367 13 14 17 20 0 := by decide +kernel
theorem i367_20 : zi 367 20 21 0 0 0 := by decide +kernel
theorem i367_21 : zi 367 21 22 25 0 0 := by decide +kernel
theorem hd_367_1 : z_hd (z_th 367) 1 = some 2 := by decide +kernel
theorem hd_367_0 : z_hd (z_th 367) 0 = some 1 := by decide +kernel
theorem ml_367 : z_ml 367 = 7 := by decide +kernel
theorem en_367 : ∀ (v0 v1 v2 v3 v4 v5 : zV), z_ent 367 [v0, v1, v2, v3, v4, v5] = [some v0, some v1, some v2, some v3, some v4, some v5, none] := fun v0 v1 v2 v3 v4 v5 => by unfold z_ent; rw [ml_367]; rfl
theorem i368_0 : zi 368 0 1 2 2 0 := by decide +kernel
theorem i368_1 : zi 368 1 2 0 0 0 := by decide +kernel
theorem i368_2 : zi 368 2 3 2 0 0 := by decide +kernel
theorem i368_3 : zi 368 3 4 1 1 0 := by decide +kernel
theorem i368_4 : zi 368 4 5 32 181 11 := by decide +kernel
theorem na_181 : z_na 181 = 1 := by decide +kernel
theorem i368_5 : zi 368 5 6 30 0 0 := by decide +kernel
theorem i368_6 : zi 368 6 7 31 0 0 := by decide +kernel
theorem i368_7 : zi 368 7 8 17 11 0 := by decide +kernel
theorem i368_11 : zi 368 11 12 0 0 0 := by decide +kernel
theorem i368_12 : zi 368 12 13 25 0 0 := by decide +kernel
theorem hd_368_0 : z_hd (z_th 368) 0 = some 1 := by decide +kernel
theorem ml_368 : z_ml 368 = 4 := by decide +kernel
theorem en_368 : ∀ (v0 v1 v2 : zV), z_ent 368 [v0, v1, v2] = [some v0, some v1, some v2, none] := fun v0 v1 v2 => by unfold z_ent; rw [ml_368]; rfl
theorem i369_0 : zi 369 0 1 2 2 0 := by decide +kernel
theorem i369_1 : zi 369 1 2 0 0 0 := by decide +kernel
theorem i369_2 : zi 369 2 3 2 0 0 := by decide +kernel
theorem i369_3 : zi 369 3 4 1 1 0 := by decide +kernel
theorem i369_4 : zi 369 4 5 32 182 11 := by decide +kernel
theorem na_182 : z_na 182 = 1 := by decide +kernel
theorem i369_5 : zi 369 5 6 30 0 0 := by decide +kernel
theorem i369_6 : zi 369 6 7 31 0 0 := by decide +kernel
theorem i369_7 : zi 369 7 8 17 11 0 := by decide +kernel
theorem i369_11 : zi 369 11 12 0 0 0 := by decide +kernel
theorem i369_12 : zi 369 12 13 25 0 0 := by decide +kernel
theorem hd_369_1 : z_hd (z_th 369) 1 = some 1 := by decide +kernel
theorem ml_369 : z_ml 369 = 4 := by decide +kernel
theorem en_369 : ∀ (v0 v1 v2 : zV), z_ent 369 [v0, v1, v2] = [some v0, some v1, some v2, none] := fun v0 v1 v2 => by unfold z_ent; rw [ml_369]; rfl
theorem i370_0 : zi 370 0 1 2 4 0 := by decide +kernel
theorem i370_1 : zi 370 1 2 0 0 0 := by decide +kernel
theorem i370_2 : zi 370 2 3 2 0 0 := by decide +kernel
theorem i370_3 : zi 370 3 4 1 1 0 := by decide +kernel
theorem i370_4 : zi 370 4 5 1 2 0 := by decide +kernel
theorem i370_5 : zi 370 5 6 1 3 0 := by decide +kernel
theorem i370_6 : zi 370 6 7 32 183 11 := by decide +kernel
theorem na_183 : z_na 183 = 3 := by decide +kernel
theorem i370_7 : zi 370 7 8 30 0 0 := by decide +kernel
theorem i370_8 : zi 370 8 9 31 0 0 := by decide +kernel
theorem i370_9 : zi 370 9 10 17 13 0 := by decide +kernel
theorem i370_13 : zi 370 13 14 0 0 0 := by decide +kernel
theorem i370_14 : zi 370 14 15 25 0 0 := by decide +kernel
theorem hd_370_1 : z_hd (z_th 370) 1 = some 1 := by decide +kernel
theorem ml_370 : z_ml 370 = 6 := by decide +kernel
theorem en_370 : ∀ (v0 v1 v2 v3 v4 : zV), z_ent 370 [v0, v1, v2, v3, v4] = [some v0, some v1, some v2, some v3, some v4, none] := fun v0 v1 v2 v3 v4 => by unfold z_ent; rw [ml_370]; rfl
theorem i371_0 : zi 371 0 1 2 2 0 := by decide +kernel
theorem i371_1 : zi 371 1 2 0 0 0 := by decide +kernel
theorem i371_2 : zi 371 2 3 2 0 0 := by decide +kernel
theorem i371_3 : zi 371 3 4 1 1 0 := by decide +kernel
theorem i371_4 : zi 371 4 5 32 184 11 := by decide +kernel
theorem na_184 : z_na 184 = 1 := by decide +kernel
theorem i371_5 : zi 371 5 6 30 0 0 := by decide +kernel
theorem i371_6 : zi 371 6 7 31 0 0 := by decide +kernel
theorem i371_7 : zi 371 7 8 17 11 0 := by decide +kernel
theorem i371_11 : zi 371 11 12 0 0 0 := by decide +kernel
theorem i371_12 : zi 371 12 13 25 0 0 := by decide +kernel
theorem hd_371_1 : z_hd (z_th 371) 1 = some 1 := by decide +kernel
theorem ml_371 : z_ml 371 = 4 := by decide +kernel
theorem en_371 : ∀ (v0 v1 v2 : zV), z_ent 371 [v0, v1, v2] = [some v0, some v1, some v2, none] := fun v0 v1 v2 => by unfold z_ent; rw [ml_371]; rfl
theorem i372_25 : zi 372 25 26 2 1 0 := by decide +kernel
theorem i372_26 : zi 372 26 27 2 0 0 := by decide +kernel
theorem i372_27 : zi 372 27 28 1 4 0 := by decide +kernel
theorem i372_28 : zi 372 28 29 0 0 1 := by decide +kernel
theorem i372_29 : zi 372 29 30 13 0 0 := by decide +kernel
theorem i372_30 : zi 372 30 31 8 0 0 := by decide +kernel
theorem i372_31 : zi 372 31 32 2 0 0 := by decide +kernel
theorem i372_32 : zi 372 32 33 1 4 0 := by decide +kernel
theorem i372_33 : zi 372 33 34 0 0 2 := by decide +kernel
theorem i372_34 : zi 372 34 35 13 0 0 := by decide +kernel
theorem i372_35 : zi 372 35 36 8 0 0 := by decide +kernel
theorem i372_36 : zi 372 36 37 2 0 0 := by decide +kernel
theorem i372_37 : zi 372 37 38 1 4 0 := by decide +kernel
theorem i372_38 : zi 372 38 39 0 0 3 := by decide +kernel
theorem i372_39 : zi 372 39 40 13 0 0 := by decide +kernel
theorem i372_40 : zi 372 40 41 8 0 0 := by decide +kernel
theorem i372_41 : zi 372 41 42 35 324 0 := by decide +kernel
theorem na_324 : z_na 324 = 4 := by decide +kernel
theorem i372_42 : zi 372 42 43 3 5 0 := by decide +kernel
theorem i372_43 : zi 372 43 44 2 2 0 := by decide +kernel
theorem i372_44 : zi 372 44 45 2 0 0 := by decide +kernel
theorem i372_45 : zi 372 45 46 1 4 0 := by decide +kernel
theorem i372_46 : zi 372 46 47 0 0 1 := by decide +kernel
theorem i372_47 : zi 372 47 48 13 0 0 := by decide +kernel
theorem i372_48 : zi 372 48 49 8 0 0 := by decide +kernel
theorem i372_49 : zi 372 49 50 2 0 0 := by decide +kernel
theorem i372_50 : zi 372 50 51 1 4 0 := by decide +kernel
theorem i372_51 : zi 372 51 52 0 0 2 := by decide +kernel
theorem i372_52 : zi 372 52 53 13 0 0 := by decide +kernel
theorem i372_53 : zi 372 53 54 8 0 0 := by decide +kernel
theorem i372_54 : zi 372 54 55 2 0 0 := by decide +kernel
theorem i372_55 : zi 372 55 56 1 4 0 := by decide +kernel
theorem i372_56 : zi 372 56 57 0 0 3 := by decide +kernel
theorem i372_57 : zi 372 57 58 13 0 0 := by decide +kernel
theorem i372_58 : zi 372 58 59 8 0 0 := by decide +kernel
theorem i372_59 : zi 372 59 60 21 218 12 := by decide +kernel
theorem na_218 : z_na 218 = 3 := by decide +kernel
theorem i372_60 : zi 372 60 61 2 2 0 := by decide +kernel
theorem i372_61 : zi 372 61 62 21 211 12 := by decide +kernel
theorem na_211 : z_na 211 = 0 := by decide +kernel
theorem i372_62 : zi 372 62 63 1 5 0 := by decide +kernel
theorem i372_63 : zi 372 63 64 19 66 0 := by decide +kernel
theorem i372_66 : zi 372 66 67 17 2420 0 := by decide +kernel
theorem i372_2420 : zi 372 2420 2421 5 4 9 := by decide +kernel
theorem kc_9 : Int32.ofInt 9 = 9 := by decide +kernel
theorem i372_2421 : zi 372 2421 2422 17 13 0 := by decide +kernel
theorem i372_64 : zi 372 64 65 0 0 0 := by decide +kernel
theorem i372_65 : zi 372 65 66 26 0 0 := by decide +kernel
theorem i372_67 : zi 372 67 68 2 1 0 := by decide +kernel
theorem i372_68 : zi 372 68 69 2 0 0 := by decide +kernel
theorem i372_69 : zi 372 69 70 1 4 0 := by decide +kernel
theorem i372_70 : zi 372 70 71 0 0 1 := by decide +kernel
theorem i372_71 : zi 372 71 72 13 0 0 := by decide +kernel
theorem i372_72 : zi 372 72 73 8 0 0 := by decide +kernel
theorem i372_73 : zi 372 73 74 2 3 0 := by decide +kernel
theorem i372_74 : zi 372 74 75 35 325 0 := by decide +kernel
theorem na_325 : z_na 325 = 3 := by decide +kernel
theorem i372_75 : zi 372 75 76 3 5 0 := by decide +kernel
theorem i372_76 : zi 372 76 77 2 2 0 := by decide +kernel
theorem i372_77 : zi 372 77 78 2 0 0 := by decide +kernel
theorem i372_78 : zi 372 78 79 1 4 0 := by decide +kernel
theorem i372_79 : zi 372 79 80 0 0 1 := by decide +kernel
theorem i372_80 : zi 372 80 81 13 0 0 := by decide +kernel
theorem i372_81 : zi 372 81 82 8 0 0 := by decide +kernel
theorem i372_82 : zi 372 82 83 21 219 12 := by decide +kernel
theorem na_219 : z_na 219 = 1 := by decide +kernel
theorem i372_83 : zi 372 83 84 3 6 0 := by decide +kernel
theorem i372_84 : zi 372 84 85 2 2 0 := by decide +kernel
theorem i372_85 : zi 372 85 86 21 211 12 := by decide +kernel
theorem i372_86 : zi 372 86 87 1 5 0 := by decide +kernel
theorem i372_87 : zi 372 87 88 19 90 0 := by decide +kernel
theorem i372_90 : zi 372 90 91 1 5 0 := by decide +kernel
theorem i372_91 : zi 372 91 92 18 101 1 := by decide +kernel
theorem i372_92 : zi 372 92 93 2 3 0 := by decide +kernel
theorem i372_93 : zi 372 93 94 0 0 0 := by decide +kernel
theorem i372_94 : zi 372 94 95 37 0 0 := by decide +kernel
theorem i372_95 : zi 372 95 96 1 6 0 := by decide +kernel
theorem i372_96 : zi 372 96 97 30 0 0 := by decide +kernel
theorem i372_97 : zi 372 97 98 38 0 0 := by decide +kernel
theorem i372_98 : zi 372 98 99 18 101 0 := by decide +kernel
theorem i372_101 : zi 372 101 102 17 2420 0 := by decide +kernel
theorem i372_99 : zi 372 99 100 0 0 0 := by decide +kernel
theorem i372_100 : zi 372 100 101 26 0 0 := by decide +kernel
theorem i372_88 : zi 372 88 89 0 0 0 := by decide +kernel
theorem i372_89 : zi 372 89 90 26 0 0 := by decide +kernel
theorem i372_102 : zi 372 102 103 2 1 0 := by decide +kernel
theorem i372_103 : zi 372 103 104 2 0 0 := by decide +kernel
theorem i372_104 : zi 372 104 105 1 4 0 := by decide +kernel
theorem i372_105 : zi 372 105 106 0 0 1 := by decide +kernel
theorem i372_106 : zi 372 106 107 13 0 0 := by decide +kernel
theorem i372_107 : zi 372 107 108 8 0 0 := by decide +kernel
theorem i372_108 : zi 372 108 109 2 0 0 := by decide +kernel
theorem i372_109 : zi 372 109 110 1 4 0 := by decide +kernel
theorem i372_110 : zi 372 110 111 0 0 2 := by decide +kernel
theorem i372_111 : zi 372 111 112 13 0 0 := by decide +kernel
theorem i372_112 : zi 372 112 113 8 0 0 := by decide +kernel
theorem i372_113 : zi 372 113 114 2 3 0 := by decide +kernel
theorem i372_114 : zi 372 114 115 35 326 0 := by decide +kernel
theorem na_326 : z_na 326 = 4 := by decide +kernel
theorem i372_115 : zi 372 115 116 3 5 0 := by decide +kernel
theorem i372_116 : zi 372 116 117 2 2 0 := by decide +kernel
theorem i372_117 : zi 372 117 118 2 0 0 := by decide +kernel
theorem i372_118 : zi 372 118 119 1 4 0 := by decide +kernel
theorem i372_119 : zi 372 119 120 0 0 1 := by decide +kernel
theorem i372_120 : zi 372 120 121 13 0 0 := by decide +kernel
theorem i372_121 : zi 372 121 122 8 0 0 := by decide +kernel
theorem i372_122 : zi 372 122 123 2 0 0 := by decide +kernel
theorem i372_123 : zi 372 123 124 1 4 0 := by decide +kernel
theorem i372_124 : zi 372 124 125 0 0 2 := by decide +kernel
theorem i372_125 : zi 372 125 126 13 0 0 := by decide +kernel
theorem i372_126 : zi 372 126 127 8 0 0 := by decide +kernel
theorem i372_127 : zi 372 127 128 21 223 12 := by decide +kernel
theorem na_223 : z_na 223 = 2 := by decide +kernel
theorem i372_128 : zi 372 128 129 3 6 0 := by decide +kernel
theorem i372_129 : zi 372 129 130 2 2 0 := by decide +kernel
theorem i372_130 : zi 372 130 131 21 211 12 := by decide +kernel
theorem i372_131 : zi 372 131 132 1 5 0 := by decide +kernel
theorem i372_132 : zi 372 132 133 19 135 0 := by decide +kernel
theorem i372_135 : zi 372 135 136 1 5 0 := by decide +kernel
theorem i372_136 : zi 372 136 137 18 146 1 := by decide +kernel
theorem i372_137 : zi 372 137 138 2 3 0 := by decide +kernel
theorem i372_138 : zi 372 138 139 0 0 0 := by decide +kernel
theorem i372_139 : zi 372 139 140 37 0 0 := by decide +kernel
theorem i372_140 : zi 372 140 141 1 6 0 := by decide +kernel
theorem i372_141 : zi 372 141 142 30 0 0 := by decide +kernel
theorem i372_142 : zi 372 142 143 38 0 0 := by decide +kernel
theorem i372_143 : zi 372 143 144 18 146 0 := by decide +kernel
theorem i372_146 : zi 372 146 147 17 2420 0 := by decide +kernel
theorem i372_144 : zi 372 144 145 0 0 0 := by decide +kernel
theorem i372_145 : zi 372 145 146 26 0 0 := by decide +kernel
theorem i372_133 : zi 372 133 134 0 0 0 := by decide +kernel
theorem i372_134 : zi 372 134 135 26 0 0 := by decide +kernel
theorem i372_147 : zi 372 147 148 2 1 0 := by decide +kernel
theorem i372_148 : zi 372 148 149 21 134 11 := by decide +kernel
theorem na_134 : z_na 134 = 0 := by decide +kernel
theorem i372_149 : zi 372 149 150 2 2 0 := by decide +kernel
theorem i372_150 : zi 372 150 151 21 224 12 := by decide +kernel
theorem na_224 : z_na 224 = 0 := by decide +kernel
theorem i372_151 : zi 372 151 152 19 2420 0 := by decide +kernel
theorem i372_152 : zi 372 152 153 0 0 0 := by decide +kernel
theorem i372_153 : zi 372 153 154 26 0 0 := by decide +kernel
theorem i372_154 : zi 372 154 155 2 1 0 := by decide +kernel
theorem i372_155 : zi 372 155 156 21 135 11 := by decide +kernel
theorem na_135 : z_na 135 = 0 := by decide +kernel
theorem i372_156 : zi 372 156 157 2 2 0 := by decide +kernel
theorem i372_157 : zi 372 157 158 21 225 12 := by decide +kernel
theorem na_225 : z_na 225 = 0 := by decide +kernel
theorem i372_158 : zi 372 158 159 19 2420 0 := by decide +kernel
theorem i372_159 : zi 372 159 160 0 0 0 := by decide +kernel
theorem i372_160 : zi 372 160 161 26 0 0 := by decide +kernel
theorem i372_161 : zi 372 161 162 2 1 0 := by decide +kernel
theorem i372_162 : zi 372 162 163 2 0 0 := by decide +kernel
theorem i372_163 : zi 372 163 164 1 4 0 := by decide +kernel
theorem i372_164 : zi 372 164 165 0 0 1 := by decide +kernel
theorem i372_165 : zi 372 165 166 13 0 0 := by decide +kernel
theorem i372_166 : zi 372 166 167 8 0 0 := by decide +kernel
theorem i372_167 : zi 372 167 168 2 0 0 := by decide +kernel
theorem i372_168 : zi 372 168 169 1 4 0 := by decide +kernel
theorem i372_169 : zi 372 169 170 0 0 2 := by decide +kernel
theorem i372_170 : zi 372 170 171 13 0 0 := by decide +kernel
theorem i372_171 : zi 372 171 172 8 0 0 := by decide +kernel
theorem i372_172 : zi 372 172 173 2 0 0 := by decide +kernel
theorem i372_173 : zi 372 173 174 1 4 0 := by decide +kernel
theorem i372_174 : zi 372 174 175 0 0 3 := by decide +kernel
theorem i372_175 : zi 372 175 176 13 0 0 := by decide +kernel
theorem i372_176 : zi 372 176 177 8 0 0 := by decide +kernel
theorem i372_177 : zi 372 177 178 35 327 0 := by decide +kernel
theorem na_327 : z_na 327 = 4 := by decide +kernel
theorem i372_178 : zi 372 178 179 3 5 0 := by decide +kernel
theorem i372_179 : zi 372 179 180 2 2 0 := by decide +kernel
theorem i372_180 : zi 372 180 181 2 0 0 := by decide +kernel
theorem i372_181 : zi 372 181 182 1 4 0 := by decide +kernel
theorem i372_182 : zi 372 182 183 0 0 1 := by decide +kernel
theorem i372_183 : zi 372 183 184 13 0 0 := by decide +kernel
theorem i372_184 : zi 372 184 185 8 0 0 := by decide +kernel
theorem i372_185 : zi 372 185 186 2 0 0 := by decide +kernel
theorem i372_186 : zi 372 186 187 1 4 0 := by decide +kernel
theorem i372_187 : zi 372 187 188 0 0 2 := by decide +kernel
theorem i372_188 : zi 372 188 189 13 0 0 := by decide +kernel
theorem i372_189 : zi 372 189 190 8 0 0 := by decide +kernel
theorem i372_190 : zi 372 190 191 2 0 0 := by decide +kernel
theorem i372_191 : zi 372 191 192 1 4 0 := by decide +kernel
theorem i372_192 : zi 372 192 193 0 0 3 := by decide +kernel
theorem i372_193 : zi 372 193 194 13 0 0 := by decide +kernel
theorem i372_194 : zi 372 194 195 8 0 0 := by decide +kernel
theorem i372_195 : zi 372 195 196 21 226 12 := by decide +kernel
theorem na_226 : z_na 226 = 3 := by decide +kernel
theorem i372_196 : zi 372 196 197 2 2 0 := by decide +kernel
theorem i372_197 : zi 372 197 198 21 211 12 := by decide +kernel
theorem i372_198 : zi 372 198 199 1 5 0 := by decide +kernel
theorem i372_199 : zi 372 199 200 19 202 0 := by decide +kernel
theorem i372_202 : zi 372 202 203 17 2420 0 := by decide +kernel
theorem i372_200 : zi 372 200 201 0 0 0 := by decide +kernel
theorem i372_201 : zi 372 201 202 26 0 0 := by decide +kernel
theorem i372_203 : zi 372 203 204 2 1 0 := by decide +kernel
theorem i372_204 : zi 372 204 205 2 0 0 := by decide +kernel
theorem i372_205 : zi 372 205 206 1 4 0 := by decide +kernel
theorem i372_206 : zi 372 206 207 0 0 1 := by decide +kernel
theorem i372_207 : zi 372 207 208 13 0 0 := by decide +kernel
theorem i372_208 : zi 372 208 209 8 0 0 := by decide +kernel
theorem i372_209 : zi 372 209 210 2 0 0 := by decide +kernel
theorem i372_210 : zi 372 210 211 1 4 0 := by decide +kernel
theorem i372_211 : zi 372 211 212 0 0 2 := by decide +kernel
theorem i372_212 : zi 372 212 213 13 0 0 := by decide +kernel
theorem i372_213 : zi 372 213 214 8 0 0 := by decide +kernel
theorem i372_214 : zi 372 214 215 2 3 0 := by decide +kernel
theorem i372_215 : zi 372 215 216 35 328 0 := by decide +kernel
theorem na_328 : z_na 328 = 4 := by decide +kernel
theorem i372_216 : zi 372 216 217 3 5 0 := by decide +kernel
theorem i372_217 : zi 372 217 218 2 2 0 := by decide +kernel
theorem i372_218 : zi 372 218 219 2 0 0 := by decide +kernel
theorem i372_219 : zi 372 219 220 1 4 0 := by decide +kernel
theorem i372_220 : zi 372 220 221 0 0 1 := by decide +kernel
theorem i372_221 : zi 372 221 222 13 0 0 := by decide +kernel
theorem i372_222 : zi 372 222 223 8 0 0 := by decide +kernel
theorem i372_223 : zi 372 223 224 2 0 0 := by decide +kernel
theorem i372_224 : zi 372 224 225 1 4 0 := by decide +kernel
theorem i372_225 : zi 372 225 226 0 0 2 := by decide +kernel
theorem i372_226 : zi 372 226 227 13 0 0 := by decide +kernel
theorem i372_227 : zi 372 227 228 8 0 0 := by decide +kernel
theorem i372_228 : zi 372 228 229 21 227 12 := by decide +kernel
theorem na_227 : z_na 227 = 2 := by decide +kernel
theorem i372_229 : zi 372 229 230 3 6 0 := by decide +kernel
theorem i372_230 : zi 372 230 231 2 2 0 := by decide +kernel
theorem i372_231 : zi 372 231 232 21 211 12 := by decide +kernel
theorem i372_232 : zi 372 232 233 1 5 0 := by decide +kernel
theorem i372_233 : zi 372 233 234 19 236 0 := by decide +kernel
theorem i372_236 : zi 372 236 237 1 5 0 := by decide +kernel
theorem i372_237 : zi 372 237 238 18 247 1 := by decide +kernel
theorem i372_238 : zi 372 238 239 2 3 0 := by decide +kernel
theorem i372_239 : zi 372 239 240 0 0 0 := by decide +kernel
theorem i372_240 : zi 372 240 241 37 0 0 := by decide +kernel
theorem i372_241 : zi 372 241 242 1 6 0 := by decide +kernel
theorem i372_242 : zi 372 242 243 30 0 0 := by decide +kernel
theorem i372_243 : zi 372 243 244 38 0 0 := by decide +kernel
theorem i372_244 : zi 372 244 245 18 247 0 := by decide +kernel
theorem i372_247 : zi 372 247 248 17 2420 0 := by decide +kernel
theorem i372_245 : zi 372 245 246 0 0 0 := by decide +kernel
theorem i372_246 : zi 372 246 247 26 0 0 := by decide +kernel
theorem i372_234 : zi 372 234 235 0 0 0 := by decide +kernel
theorem i372_235 : zi 372 235 236 26 0 0 := by decide +kernel
