/-! the methods with loops, and what calls them (wip/p57/gen/gen18.py) -/
theorem i74_0 : zi 74 0 1 0 0 0 := by decide +kernel
theorem i74_1 : zi 74 1 2 3 3 0 := by decide +kernel
theorem i74_2 : zi 74 2 3 0 0 0 := by decide +kernel
theorem i74_3 : zi 74 3 4 3 4 0 := by decide +kernel
theorem i74_4 : zi 74 4 5 1 4 0 := by decide +kernel
theorem i74_5 : zi 74 5 6 2 0 0 := by decide +kernel
theorem i74_6 : zi 74 6 7 6 6 4 := by decide +kernel
theorem i74_7 : zi 74 7 8 12 0 0 := by decide +kernel
theorem kn_18 : Int32.ofNat 18 = 18 := by decide +kernel
theorem i74_8 : zi 74 8 9 19 23 3 := by decide +kernel
theorem i74_9 : zi 74 9 10 2 0 0 := by decide +kernel
theorem i74_10 : zi 74 10 11 6 6 4 := by decide +kernel
theorem i74_11 : zi 74 11 12 1 4 0 := by decide +kernel
theorem i74_12 : zi 74 12 13 8 0 0 := by decide +kernel
theorem i74_13 : zi 74 13 14 1 1 0 := by decide +kernel
theorem i74_14 : zi 74 14 15 19 21 1 := by decide +kernel
theorem i74_15 : zi 74 15 16 2 0 0 := by decide +kernel
theorem i74_16 : zi 74 16 17 6 6 4 := by decide +kernel
theorem i74_17 : zi 74 17 18 1 4 0 := by decide +kernel
theorem i74_18 : zi 74 18 19 1 2 0 := by decide +kernel
theorem i74_19 : zi 74 19 20 10 0 0 := by decide +kernel
theorem i74_20 : zi 74 20 21 5 3 1 := by decide +kernel
theorem i74_21 : zi 74 21 22 5 4 1 := by decide +kernel
theorem i74_22 : zi 74 22 23 17 4 0 := by decide +kernel
theorem i74_23 : zi 74 23 24 1 3 0 := by decide +kernel
theorem i74_24 : zi 74 24 25 25 0 0 := by decide +kernel
theorem ml_74 : z_ml 74 = 5 := by decide +kernel
theorem en_74 : ∀ (v0 v1 v2 : zV), z_ent 74 [v0, v1, v2] = [some v0, some v1, some v2, none, none] := fun v0 v1 v2 => by unfold z_ent; rw [ml_74]; rfl
theorem i75_0 : zi 75 0 1 0 0 0 := by decide +kernel
theorem i75_1 : zi 75 1 2 3 3 0 := by decide +kernel
theorem i75_2 : zi 75 2 3 1 3 0 := by decide +kernel
theorem i75_3 : zi 75 3 4 0 0 4 := by decide +kernel
theorem i75_4 : zi 75 4 5 19 19 3 := by decide +kernel
theorem i75_5 : zi 75 5 6 2 0 0 := by decide +kernel
theorem i75_6 : zi 75 6 7 1 3 0 := by decide +kernel
theorem i75_7 : zi 75 7 8 1 1 0 := by decide +kernel
theorem i75_8 : zi 75 8 9 0 0 0 := by decide +kernel
theorem i75_9 : zi 75 9 10 21 76 6 := by decide +kernel
theorem i75_10 : zi 75 10 11 18 17 0 := by decide +kernel
theorem i75_11 : zi 75 11 12 2 0 0 := by decide +kernel
theorem i75_12 : zi 75 12 13 1 3 0 := by decide +kernel
theorem i75_13 : zi 75 13 14 1 2 0 := by decide +kernel
theorem i75_14 : zi 75 14 15 0 0 1 := by decide +kernel
theorem i75_15 : zi 75 15 16 21 76 6 := by decide +kernel
theorem i75_16 : zi 75 16 17 16 0 0 := by decide +kernel
theorem i75_17 : zi 75 17 18 5 3 1 := by decide +kernel
theorem i75_18 : zi 75 18 19 17 2 0 := by decide +kernel
theorem i75_19 : zi 75 19 20 27 0 0 := by decide +kernel
theorem ml_75 : z_ml 75 = 4 := by decide +kernel
theorem en_75 : ∀ (v0 v1 v2 : zV), z_ent 75 [v0, v1, v2] = [some v0, some v1, some v2, none] := fun v0 v1 v2 => by unfold z_ent; rw [ml_75]; rfl
theorem i93_0 : zi 93 0 1 0 0 1 := by decide +kernel
theorem i93_1 : zi 93 1 2 3 3 0 := by decide +kernel
theorem i93_2 : zi 93 2 3 1 3 0 := by decide +kernel
theorem i93_3 : zi 93 3 4 2 0 0 := by decide +kernel
theorem i93_4 : zi 93 4 5 6 7 1 := by decide +kernel
theorem i93_5 : zi 93 5 6 19 35 4 := by decide +kernel
theorem i93_6 : zi 93 6 7 1 1 0 := by decide +kernel
theorem i93_7 : zi 93 7 8 3 4 0 := by decide +kernel
theorem i93_8 : zi 93 8 9 0 0 0 := by decide +kernel
theorem i93_9 : zi 93 9 10 3 5 0 := by decide +kernel
theorem i93_35 : zi 93 35 36 27 0 0 := by decide +kernel
theorem i93_10 : zi 93 10 11 1 5 0 := by decide +kernel
theorem i93_11 : zi 93 11 12 1 2 0 := by decide +kernel
theorem i93_12 : zi 93 12 13 19 21 3 := by decide +kernel
theorem i93_13 : zi 93 13 14 1 4 0 := by decide +kernel
theorem i93_14 : zi 93 14 15 1 3 0 := by decide +kernel
theorem i93_15 : zi 93 15 16 13 2 0 := by decide +kernel
theorem i93_16 : zi 93 16 17 0 0 257 := by decide +kernel
theorem kc_257 : Int32.ofInt 257 = 257 := by decide +kernel
theorem i93_17 : zi 93 17 18 13 4 0 := by decide +kernel
theorem nz_257 : ¬ (257 : Int32) = 0 := by decide
theorem i93_18 : zi 93 18 19 3 4 0 := by decide +kernel
theorem i93_19 : zi 93 19 20 5 5 1 := by decide +kernel
theorem i93_20 : zi 93 20 21 17 10 0 := by decide +kernel
theorem i93_21 : zi 93 21 22 2 0 0 := by decide +kernel
theorem i93_22 : zi 93 22 23 6 7 3 := by decide +kernel
theorem i93_23 : zi 93 23 24 1 3 0 := by decide +kernel
theorem i93_24 : zi 93 24 25 2 0 0 := by decide +kernel
theorem i93_25 : zi 93 25 26 6 7 3 := by decide +kernel
theorem i93_26 : zi 93 26 27 1 3 0 := by decide +kernel
theorem i93_27 : zi 93 27 28 8 0 0 := by decide +kernel
theorem i93_28 : zi 93 28 29 1 4 0 := by decide +kernel
theorem i93_29 : zi 93 29 30 13 0 0 := by decide +kernel
theorem i93_30 : zi 93 30 31 0 0 257 := by decide +kernel
theorem i93_31 : zi 93 31 32 13 4 0 := by decide +kernel
theorem i93_32 : zi 93 32 33 10 0 0 := by decide +kernel
theorem i93_33 : zi 93 33 34 5 3 1 := by decide +kernel
theorem i93_34 : zi 93 34 35 17 2 0 := by decide +kernel
theorem ml_93 : z_ml 93 = 6 := by decide +kernel
theorem en_93 : ∀ (v0 v1 v2 : zV), z_ent 93 [v0, v1, v2] = [some v0, some v1, some v2, none, none, none] := fun v0 v1 v2 => by unfold z_ent; rw [ml_93]; rfl
theorem i87_0 : zi 87 0 1 1 1 0 := by decide +kernel
theorem i87_1 : zi 87 1 2 3 4 0 := by decide +kernel
theorem i87_2 : zi 87 2 3 2 0 0 := by decide +kernel
theorem i87_3 : zi 87 3 4 6 7 0 := by decide +kernel
theorem fl_1_0 : zfl 1 7 0 0 none := by decide +kernel
theorem i87_4 : zi 87 4 5 0 0 (-1) := by decide +kernel
theorem i87_5 : zi 87 5 6 19 14 1 := by decide +kernel
theorem i87_6 : zi 87 6 7 1 4 0 := by decide +kernel
theorem i87_7 : zi 87 7 8 22 92 0 := by decide +kernel
theorem na_92 : z_na 92 = 1 := by decide +kernel
theorem i87_8 : zi 87 8 9 3 4 0 := by decide +kernel
theorem i87_9 : zi 87 9 10 2 0 0 := by decide +kernel
theorem i87_10 : zi 87 10 11 1 4 0 := by decide +kernel
theorem i87_11 : zi 87 11 12 0 0 257 := by decide +kernel
theorem i87_12 : zi 87 12 13 13 4 0 := by decide +kernel
theorem i87_13 : zi 87 13 14 7 7 0 := by decide +kernel
theorem i87_14 : zi 87 14 15 2 0 0 := by decide +kernel
theorem i87_15 : zi 87 15 16 1 2 0 := by decide +kernel
theorem i87_16 : zi 87 16 17 7 7 1 := by decide +kernel
theorem i87_17 : zi 87 17 18 2 0 0 := by decide +kernel
theorem i87_18 : zi 87 18 19 1 3 0 := by decide +kernel
theorem i87_19 : zi 87 19 20 7 7 2 := by decide +kernel
theorem fl_1_2 : zfl 1 7 2 2 none := by decide +kernel
theorem i87_20 : zi 87 20 21 0 0 1 := by decide +kernel
theorem i87_21 : zi 87 21 22 3 5 0 := by decide +kernel
theorem i87_22 : zi 87 22 23 1 5 0 := by decide +kernel
theorem i87_23 : zi 87 23 24 2 0 0 := by decide +kernel
theorem i87_24 : zi 87 24 25 6 7 1 := by decide +kernel
theorem i87_25 : zi 87 25 26 19 34 4 := by decide +kernel
theorem i87_26 : zi 87 26 27 2 0 0 := by decide +kernel
theorem i87_27 : zi 87 27 28 6 7 3 := by decide +kernel
theorem i87_28 : zi 87 28 29 1 5 0 := by decide +kernel
theorem i87_29 : zi 87 29 30 2 0 0 := by decide +kernel
theorem i87_30 : zi 87 30 31 6 7 0 := by decide +kernel
theorem i87_31 : zi 87 31 32 10 0 0 := by decide +kernel
theorem i87_32 : zi 87 32 33 5 5 1 := by decide +kernel
theorem i87_33 : zi 87 33 34 17 22 0 := by decide +kernel
theorem i87_34 : zi 87 34 35 0 0 1 := by decide +kernel
theorem i87_35 : zi 87 35 36 3 5 0 := by decide +kernel
theorem i87_36 : zi 87 36 37 1 5 0 := by decide +kernel
theorem i87_37 : zi 87 37 38 2 0 0 := by decide +kernel
theorem i87_38 : zi 87 38 39 6 7 2 := by decide +kernel
theorem i87_39 : zi 87 39 40 19 51 3 := by decide +kernel
theorem i87_40 : zi 87 40 41 1 4 0 := by decide +kernel
theorem i87_41 : zi 87 41 42 22 92 0 := by decide +kernel
theorem i87_42 : zi 87 42 43 3 4 0 := by decide +kernel
theorem i87_43 : zi 87 43 44 2 0 0 := by decide +kernel
theorem i87_44 : zi 87 44 45 1 4 0 := by decide +kernel
theorem i87_45 : zi 87 45 46 0 0 257 := by decide +kernel
theorem i87_46 : zi 87 46 47 13 4 0 := by decide +kernel
theorem i87_47 : zi 87 47 48 1 5 0 := by decide +kernel
theorem i87_48 : zi 87 48 49 21 93 7 := by decide +kernel
theorem na_93 : z_na 93 = 2 := by decide +kernel
theorem i87_49 : zi 87 49 50 5 5 1 := by decide +kernel
theorem i87_50 : zi 87 50 51 17 36 0 := by decide +kernel
theorem i87_51 : zi 87 51 52 27 0 0 := by decide +kernel
theorem ml_87 : z_ml 87 = 6 := by decide +kernel
theorem en_87 : ∀ (v0 v1 v2 v3 : zV), z_ent 87 [v0, v1, v2, v3] = [some v0, some v1, some v2, some v3, none, none] := fun v0 v1 v2 v3 => by unfold z_ent; rw [ml_87]; rfl
theorem i98_0 : zi 98 0 1 0 0 1 := by decide +kernel
theorem i98_1 : zi 98 1 2 3 1 0 := by decide +kernel
theorem i98_2 : zi 98 2 3 1 0 0 := by decide +kernel
theorem i98_3 : zi 98 3 4 3 2 0 := by decide +kernel
theorem i98_4 : zi 98 4 5 0 0 0 := by decide +kernel
theorem i98_5 : zi 98 5 6 3 3 0 := by decide +kernel
theorem i98_6 : zi 98 6 7 1 3 0 := by decide +kernel
theorem i98_7 : zi 98 7 8 0 0 8 := by decide +kernel
theorem i98_8 : zi 98 8 9 19 23 3 := by decide +kernel
theorem i98_9 : zi 98 9 10 1 1 0 := by decide +kernel
theorem i98_10 : zi 98 10 11 1 2 0 := by decide +kernel
theorem i98_11 : zi 98 11 12 13 2 0 := by decide +kernel
theorem i98_12 : zi 98 12 13 0 0 257 := by decide +kernel
theorem i98_13 : zi 98 13 14 13 4 0 := by decide +kernel
theorem i98_14 : zi 98 14 15 3 1 0 := by decide +kernel
theorem i98_15 : zi 98 15 16 1 2 0 := by decide +kernel
theorem i98_16 : zi 98 16 17 1 2 0 := by decide +kernel
theorem i98_17 : zi 98 17 18 13 2 0 := by decide +kernel
theorem i98_18 : zi 98 18 19 0 0 257 := by decide +kernel
theorem i98_19 : zi 98 19 20 13 4 0 := by decide +kernel
theorem i98_20 : zi 98 20 21 3 2 0 := by decide +kernel
theorem i98_21 : zi 98 21 22 5 3 1 := by decide +kernel
theorem i98_22 : zi 98 22 23 17 6 0 := by decide +kernel
theorem i98_23 : zi 98 23 24 1 1 0 := by decide +kernel
theorem i98_24 : zi 98 24 25 25 0 0 := by decide +kernel
theorem ml_98 : z_ml 98 = 4 := by decide +kernel
theorem en_98 : ∀ (v0 : zV), z_ent 98 [v0] = [some v0, none, none, none] := fun v0 => by unfold z_ent; rw [ml_98]; rfl
theorem i97_0 : zi 97 0 1 0 0 1 := by decide +kernel
theorem i97_1 : zi 97 1 2 3 2 0 := by decide +kernel
theorem i97_2 : zi 97 2 3 0 0 1 := by decide +kernel
theorem i97_3 : zi 97 3 4 3 3 0 := by decide +kernel
theorem i97_4 : zi 97 4 5 1 3 0 := by decide +kernel
theorem i97_5 : zi 97 5 6 2 0 0 := by decide +kernel
theorem i97_6 : zi 97 6 7 6 7 1 := by decide +kernel
theorem i97_7 : zi 97 7 8 19 34 4 := by decide +kernel
theorem i97_8 : zi 97 8 9 2 0 0 := by decide +kernel
theorem i97_9 : zi 97 9 10 6 7 4 := by decide +kernel
theorem i97_10 : zi 97 10 11 1 3 0 := by decide +kernel
theorem i97_11 : zi 97 11 12 8 0 0 := by decide +kernel
theorem i97_12 : zi 97 12 13 0 0 (-1) := by decide +kernel
theorem i97_13 : zi 97 13 14 19 32 0 := by decide +kernel
theorem i97_14 : zi 97 14 15 1 3 0 := by decide +kernel
theorem i97_15 : zi 97 15 16 1 1 0 := by decide +kernel
theorem i97_16 : zi 97 16 17 19 32 0 := by decide +kernel
theorem i97_17 : zi 97 17 18 1 2 0 := by decide +kernel
theorem i97_18 : zi 97 18 19 1 3 0 := by decide +kernel
theorem i97_19 : zi 97 19 20 13 2 0 := by decide +kernel
theorem i97_20 : zi 97 20 21 0 0 257 := by decide +kernel
theorem i97_21 : zi 97 21 22 13 4 0 := by decide +kernel
theorem i97_22 : zi 97 22 23 1 3 0 := by decide +kernel
theorem i97_23 : zi 97 23 24 1 1 0 := by decide +kernel
theorem i97_24 : zi 97 24 25 13 1 0 := by decide +kernel
theorem i97_25 : zi 97 25 26 0 0 257 := by decide +kernel
theorem i97_26 : zi 97 26 27 22 323 0 := by decide +kernel
theorem i97_27 : zi 97 27 28 22 98 0 := by decide +kernel
theorem na_98 : z_na 98 = 1 := by decide +kernel
theorem i97_28 : zi 97 28 29 13 2 0 := by decide +kernel
theorem i97_29 : zi 97 29 30 0 0 257 := by decide +kernel
theorem i97_30 : zi 97 30 31 13 4 0 := by decide +kernel
theorem i97_31 : zi 97 31 32 3 2 0 := by decide +kernel
theorem i97_32 : zi 97 32 33 5 3 1 := by decide +kernel
theorem i97_33 : zi 97 33 34 17 4 0 := by decide +kernel
theorem i97_34 : zi 97 34 35 1 2 0 := by decide +kernel
theorem i97_35 : zi 97 35 36 25 0 0 := by decide +kernel
theorem ml_97 : z_ml 97 = 4 := by decide +kernel
theorem en_97 : ∀ (v0 v1 : zV), z_ent 97 [v0, v1] = [some v0, some v1, none, none] := fun v0 v1 => by unfold z_ent; rw [ml_97]; rfl
theorem i96_0 : zi 96 0 1 0 0 0 := by decide +kernel
theorem i96_1 : zi 96 1 2 3 1 0 := by decide +kernel
theorem i96_2 : zi 96 2 3 0 0 1 := by decide +kernel
theorem i96_3 : zi 96 3 4 3 2 0 := by decide +kernel
theorem i96_4 : zi 96 4 5 1 2 0 := by decide +kernel
theorem i96_5 : zi 96 5 6 2 0 0 := by decide +kernel
theorem i96_6 : zi 96 6 7 6 7 1 := by decide +kernel
theorem i96_7 : zi 96 7 8 19 29 4 := by decide +kernel
theorem i96_8 : zi 96 8 9 2 0 0 := by decide +kernel
theorem i96_9 : zi 96 9 10 6 7 4 := by decide +kernel
theorem i96_10 : zi 96 10 11 1 2 0 := by decide +kernel
theorem i96_11 : zi 96 11 12 8 0 0 := by decide +kernel
theorem i96_12 : zi 96 12 13 0 0 (-1) := by decide +kernel
theorem i96_13 : zi 96 13 14 19 27 0 := by decide +kernel
theorem i96_14 : zi 96 14 15 1 1 0 := by decide +kernel
theorem i96_15 : zi 96 15 16 2 0 0 := by decide +kernel
theorem i96_16 : zi 96 16 17 6 7 4 := by decide +kernel
theorem i96_17 : zi 96 17 18 1 2 0 := by decide +kernel
theorem i96_18 : zi 96 18 19 8 0 0 := by decide +kernel
theorem i96_19 : zi 96 19 20 2 0 0 := by decide +kernel
theorem i96_20 : zi 96 20 21 1 2 0 := by decide +kernel
theorem i96_21 : zi 96 21 22 21 97 7 := by decide +kernel
theorem na_97 : z_na 97 = 1 := by decide +kernel
theorem i96_22 : zi 96 22 23 13 2 0 := by decide +kernel
theorem i96_23 : zi 96 23 24 13 0 0 := by decide +kernel
theorem i96_24 : zi 96 24 25 0 0 257 := by decide +kernel
theorem i96_25 : zi 96 25 26 13 4 0 := by decide +kernel
theorem i96_26 : zi 96 26 27 3 1 0 := by decide +kernel
theorem i96_27 : zi 96 27 28 5 2 1 := by decide +kernel
theorem i96_28 : zi 96 28 29 17 4 0 := by decide +kernel
theorem i96_29 : zi 96 29 30 1 1 0 := by decide +kernel
theorem i96_30 : zi 96 30 31 25 0 0 := by decide +kernel
theorem ml_96 : z_ml 96 = 3 := by decide +kernel
theorem en_96 : ∀ (v0 : zV), z_ent 96 [v0] = [some v0, none, none] := fun v0 => by unfold z_ent; rw [ml_96]; rfl
theorem i95_0 : zi 95 0 1 0 0 0 := by decide +kernel
theorem i95_1 : zi 95 1 2 3 1 0 := by decide +kernel
theorem i95_2 : zi 95 2 3 1 1 0 := by decide +kernel
theorem i95_3 : zi 95 3 4 2 0 0 := by decide +kernel
theorem i95_4 : zi 95 4 5 6 7 4 := by decide +kernel
theorem i95_5 : zi 95 5 6 12 0 0 := by decide +kernel
theorem kn_7 : Int32.ofNat 7 = 7 := by decide +kernel
theorem i95_6 : zi 95 6 7 19 14 3 := by decide +kernel
theorem i95_7 : zi 95 7 8 2 0 0 := by decide +kernel
theorem i95_8 : zi 95 8 9 6 7 4 := by decide +kernel
theorem i95_9 : zi 95 9 10 1 1 0 := by decide +kernel
theorem i95_10 : zi 95 10 11 0 0 (-1) := by decide +kernel
theorem i95_11 : zi 95 11 12 10 0 0 := by decide +kernel
theorem i95_12 : zi 95 12 13 5 1 1 := by decide +kernel
theorem i95_13 : zi 95 13 14 17 2 0 := by decide +kernel
theorem i95_14 : zi 95 14 15 2 0 0 := by decide +kernel
theorem i95_15 : zi 95 15 16 0 0 0 := by decide +kernel
theorem i95_16 : zi 95 16 17 7 7 5 := by decide +kernel
theorem i95_17 : zi 95 17 18 27 0 0 := by decide +kernel
theorem ml_95 : z_ml 95 = 2 := by decide +kernel
theorem en_95 : ∀ (v0 : zV), z_ent 95 [v0] = [some v0, none] := fun v0 => by unfold z_ent; rw [ml_95]; rfl
theorem i88_0 : zi 88 0 1 2 0 0 := by decide +kernel
theorem i88_1 : zi 88 1 2 1 1 0 := by decide +kernel
theorem i88_2 : zi 88 2 3 1 2 0 := by decide +kernel
theorem i88_3 : zi 88 3 4 21 94 7 := by decide +kernel
theorem na_94 : z_na 94 = 2 := by decide +kernel
theorem i88_4 : zi 88 4 5 2 0 0 := by decide +kernel
theorem i88_5 : zi 88 5 6 6 7 2 := by decide +kernel
theorem i88_6 : zi 88 6 7 19 10 3 := by decide +kernel
theorem i88_10 : zi 88 10 11 2 0 0 := by decide +kernel
theorem i88_11 : zi 88 11 12 2 0 0 := by decide +kernel
theorem i88_12 : zi 88 12 13 21 96 7 := by decide +kernel
theorem na_96 : z_na 96 = 0 := by decide +kernel
theorem i88_13 : zi 88 13 14 2 0 0 := by decide +kernel
theorem i88_14 : zi 88 14 15 6 7 0 := by decide +kernel
theorem i88_15 : zi 88 15 16 19 18 1 := by decide +kernel
theorem i88_16 : zi 88 16 17 0 0 1 := by decide +kernel
theorem i88_17 : zi 88 17 18 17 19 0 := by decide +kernel
theorem i88_18 : zi 88 18 19 0 0 0 := by decide +kernel
theorem i88_19 : zi 88 19 20 33 7 6 := by decide +kernel
theorem i88_20 : zi 88 20 21 2 0 0 := by decide +kernel
theorem i88_21 : zi 88 21 22 21 95 7 := by decide +kernel
theorem na_95 : z_na 95 = 0 := by decide +kernel
theorem i88_22 : zi 88 22 23 0 0 0 := by decide +kernel
theorem i88_23 : zi 88 23 24 25 0 0 := by decide +kernel
theorem i88_7 : zi 88 7 8 2 0 0 := by decide +kernel
theorem i88_8 : zi 88 8 9 6 7 5 := by decide +kernel
theorem i88_9 : zi 88 9 10 25 0 0 := by decide +kernel
theorem ml_88 : z_ml 88 = 3 := by decide +kernel
theorem en_88 : ∀ (v0 v1 v2 : zV), z_ent 88 [v0, v1, v2] = [some v0, some v1, some v2] := fun v0 v1 v2 => by unfold z_ent; rw [ml_88]; rfl
theorem i91_0 : zi 91 0 1 2 0 0 := by decide +kernel
theorem i91_1 : zi 91 1 2 6 7 6 := by decide +kernel
theorem i91_2 : zi 91 2 3 3 1 0 := by decide +kernel
theorem i91_3 : zi 91 3 4 2 0 0 := by decide +kernel
theorem i91_4 : zi 91 4 5 0 0 0 := by decide +kernel
theorem i91_5 : zi 91 5 6 33 7 6 := by decide +kernel
theorem i91_6 : zi 91 6 7 2 0 0 := by decide +kernel
theorem i91_7 : zi 91 7 8 0 0 0 := by decide +kernel
theorem i91_8 : zi 91 8 9 33 7 7 := by decide +kernel
theorem fl_1_7 : zfl 1 7 7 7 none := by decide +kernel
theorem i91_9 : zi 91 9 10 2 0 0 := by decide +kernel
theorem i91_10 : zi 91 10 11 21 95 7 := by decide +kernel
theorem i91_11 : zi 91 11 12 1 1 0 := by decide +kernel
theorem i91_12 : zi 91 12 13 26 0 0 := by decide +kernel
theorem ml_91 : z_ml 91 = 2 := by decide +kernel
theorem en_91 : ∀ (v0 : zV), z_ent 91 [v0] = [some v0, none] := fun v0 => by unfold z_ent; rw [ml_91]; rfl
theorem i101_0 : zi 101 0 1 0 0 0 := by decide +kernel
theorem i101_1 : zi 101 1 2 3 1 0 := by decide +kernel
theorem i101_2 : zi 101 2 3 0 0 0 := by decide +kernel
theorem i101_3 : zi 101 3 4 3 2 0 := by decide +kernel
theorem i101_4 : zi 101 4 5 1 2 0 := by decide +kernel
theorem i101_5 : zi 101 5 6 0 0 3 := by decide +kernel
theorem i101_6 : zi 101 6 7 19 28 3 := by decide +kernel
theorem i101_7 : zi 101 7 8 2 0 0 := by decide +kernel
theorem i101_8 : zi 101 8 9 6 8 0 := by decide +kernel
theorem i101_9 : zi 101 9 10 1 2 0 := by decide +kernel
theorem i101_10 : zi 101 10 11 9 0 0 := by decide +kernel
theorem kt_0 : (0 : Int32).toNatClampNeg = 0 := by decide +kernel
theorem zx_3_0 : zx 3 0 := by unfold zx; decide
theorem i101_11 : zi 101 11 12 18 19 0 := by decide +kernel
theorem i101_19 : zi 101 19 20 1 1 0 := by decide +kernel
theorem i101_20 : zi 101 20 21 2 0 0 := by decide +kernel
theorem i101_21 : zi 101 21 22 6 8 0 := by decide +kernel
theorem i101_22 : zi 101 22 23 1 2 0 := by decide +kernel
theorem i101_23 : zi 101 23 24 9 0 0 := by decide +kernel
theorem i101_24 : zi 101 24 25 13 6 0 := by decide +kernel
theorem i101_25 : zi 101 25 26 3 1 0 := by decide +kernel
theorem i101_26 : zi 101 26 27 5 2 1 := by decide +kernel
theorem i101_27 : zi 101 27 28 17 4 0 := by decide +kernel
theorem kt_1 : (1 : Int32).toNatClampNeg = 1 := by decide +kernel
theorem zx_3_1 : zx 3 1 := by unfold zx; decide
theorem kt_2 : (2 : Int32).toNatClampNeg = 2 := by decide +kernel
theorem zx_3_2 : zx 3 2 := by unfold zx; decide
theorem i101_28 : zi 101 28 29 1 1 0 := by decide +kernel
theorem i101_29 : zi 101 29 30 26 0 0 := by decide +kernel
theorem i101_12 : zi 101 12 13 2 0 0 := by decide +kernel
theorem i101_13 : zi 101 13 14 6 8 1 := by decide +kernel
theorem i101_14 : zi 101 14 15 1 2 0 := by decide +kernel
theorem i101_15 : zi 101 15 16 9 0 0 := by decide +kernel
theorem i101_16 : zi 101 16 17 18 19 1 := by decide +kernel
theorem i101_17 : zi 101 17 18 0 0 0 := by decide +kernel
theorem i101_18 : zi 101 18 19 26 0 0 := by decide +kernel
theorem ml_101 : z_ml 101 = 3 := by decide +kernel
theorem en_101 : ∀ (v0 : zV), z_ent 101 [v0] = [some v0, none, none] := fun v0 => by unfold z_ent; rw [ml_101]; rfl
theorem i102_0 : zi 102 0 1 1 4 0 := by decide +kernel
theorem i102_1 : zi 102 1 2 18 6 3 := by decide +kernel
theorem i102_6 : zi 102 6 7 1 4 0 := by decide +kernel
theorem i102_2 : zi 102 2 3 0 0 60000 := by decide +kernel
theorem kc_60000 : Int32.ofInt 60000 = 60000 := by decide +kernel
theorem i102_3 : zi 102 3 4 1 4 0 := by decide +kernel
theorem i102_4 : zi 102 4 5 13 0 0 := by decide +kernel
theorem i102_5 : zi 102 5 6 17 7 0 := by decide +kernel
theorem i102_7 : zi 102 7 8 3 5 0 := by decide +kernel
theorem i102_8 : zi 102 8 9 0 0 7 := by decide +kernel
theorem i102_9 : zi 102 9 10 1 1 0 := by decide +kernel
theorem i102_10 : zi 102 10 11 13 2 0 := by decide +kernel
theorem i102_11 : zi 102 11 12 1 2 0 := by decide +kernel
theorem i102_12 : zi 102 12 13 13 0 0 := by decide +kernel
theorem i102_13 : zi 102 13 14 0 0 1000 := by decide +kernel
theorem i102_14 : zi 102 14 15 1 3 0 := by decide +kernel
theorem i102_15 : zi 102 15 16 22 103 0 := by decide +kernel
theorem na_103 : z_na 103 = 1 := by decide +kernel
theorem i102_16 : zi 102 16 17 13 2 0 := by decide +kernel
theorem i102_17 : zi 102 17 18 13 0 0 := by decide +kernel
theorem i102_18 : zi 102 18 19 3 6 0 := by decide +kernel
theorem i102_19 : zi 102 19 20 0 0 0 := by decide +kernel
theorem i102_20 : zi 102 20 21 3 7 0 := by decide +kernel
theorem i102_21 : zi 102 21 22 1 7 0 := by decide +kernel
theorem i102_22 : zi 102 22 23 0 0 3 := by decide +kernel
theorem i102_23 : zi 102 23 24 19 57 3 := by decide +kernel
theorem i102_24 : zi 102 24 25 2 0 0 := by decide +kernel
theorem i102_25 : zi 102 25 26 6 8 0 := by decide +kernel
theorem i102_26 : zi 102 26 27 1 7 0 := by decide +kernel
theorem i102_27 : zi 102 27 28 9 0 0 := by decide +kernel
theorem i102_28 : zi 102 28 29 18 55 0 := by decide +kernel
theorem i102_29 : zi 102 29 30 2 0 0 := by decide +kernel
theorem i102_30 : zi 102 30 31 6 8 1 := by decide +kernel
theorem i102_31 : zi 102 31 32 1 7 0 := by decide +kernel
theorem i102_32 : zi 102 32 33 9 0 0 := by decide +kernel
theorem i102_33 : zi 102 33 34 18 55 1 := by decide +kernel
theorem i102_34 : zi 102 34 35 2 0 0 := by decide +kernel
theorem i102_35 : zi 102 35 36 6 8 3 := by decide +kernel
theorem i102_36 : zi 102 36 37 1 7 0 := by decide +kernel
theorem i102_37 : zi 102 37 38 0 0 31 := by decide +kernel
theorem kc_31 : Int32.ofInt 31 = 31 := by decide +kernel
theorem i102_38 : zi 102 38 39 2 0 0 := by decide +kernel
theorem i102_39 : zi 102 39 40 6 8 3 := by decide +kernel
theorem i102_40 : zi 102 40 41 1 7 0 := by decide +kernel
theorem i102_41 : zi 102 41 42 8 0 0 := by decide +kernel
theorem i102_42 : zi 102 42 43 13 2 0 := by decide +kernel
theorem i102_43 : zi 102 43 44 1 6 0 := by decide +kernel
theorem i102_44 : zi 102 44 45 13 0 0 := by decide +kernel
theorem i102_45 : zi 102 45 46 1 5 0 := by decide +kernel
theorem i102_46 : zi 102 46 47 2 0 0 := by decide +kernel
theorem i102_47 : zi 102 47 48 6 8 2 := by decide +kernel
theorem i102_48 : zi 102 48 49 1 7 0 := by decide +kernel
theorem i102_49 : zi 102 49 50 8 0 0 := by decide +kernel
theorem i102_50 : zi 102 50 51 13 2 0 := by decide +kernel
theorem i102_51 : zi 102 51 52 13 0 0 := by decide +kernel
theorem i102_52 : zi 102 52 53 0 0 65521 := by decide +kernel
theorem kc_65521 : Int32.ofInt 65521 = 65521 := by decide +kernel
theorem i102_53 : zi 102 53 54 13 4 0 := by decide +kernel
theorem nz_65521 : ¬ (65521 : Int32) = 0 := by decide
theorem i102_54 : zi 102 54 55 10 0 0 := by decide +kernel
theorem i102_55 : zi 102 55 56 5 7 1 := by decide +kernel
theorem i102_56 : zi 102 56 57 17 21 0 := by decide +kernel
theorem i102_57 : zi 102 57 58 27 0 0 := by decide +kernel
theorem ml_102 : z_ml 102 = 8 := by decide +kernel
theorem en_102 : ∀ (v0 v1 v2 v3 v4 : zV), z_ent 102 [v0, v1, v2, v3, v4] = [some v0, some v1, some v2, some v3, some v4, none, none, none] := fun v0 v1 v2 v3 v4 => by unfold z_ent; rw [ml_102]; rfl
set_option maxRecDepth 100000 in
theorem s74_4 {L : Nat} (x1 x2 x3 x4 : Int32) (S : zS) (g0 : (¬ (18 ≤ x4)) → zx 18 x4) : zt L 74 4 [some (.inr (.inr 4)), some (.inl x1), some (.inl x2), some (.inl x3), some (.inl x4)] [] S (if (18 ≤ x4) then (.inl (23, [some (.inr (.inr 4)), some (.inl x1), some (.inl x2), some (.inl x3), some (.inl x4)], [], S)) else (.inl (4, [some (.inr (.inr 4)), some (.inl x1), some (.inl x2), some (.inl (if ((S 24 x4.toNatClampNeg) = x1) then ((x3 + 1) : Int32) else x3)), some (.inl (x4 + 1))], [], (if ((S 24 x4.toNatClampNeg) = x1) then (z_up S 24 x4.toNatClampNeg x2) else S)))) := zr_1_4 i74_4 (zr_2_0 i74_5 (zr_6r i74_6 fl_4_4 (zr_12 i74_7 ar_24 kn_18 (zr_19_3 i74_8 (fun h785 => zt_rfl) (fun h786 => zr_2_0 i74_9 (zr_6r i74_10 fl_4_4 (zr_1_4 i74_11 (zr_8 i74_12 ar_24 (g0 h786) rfl rfl (zr_1_1 i74_13 (zt_trans (zt_cast (zr_19_1 i74_14 (fun h787 => zr_2_0 i74_15 (zr_6r i74_16 fl_4_4 (zr_1_4 i74_17 (zr_1_2 i74_18 (zr_10 i74_19 ar_24 (g0 h786) rfl (zr_5_3 i74_20 kc_1 (zt_rfl))))))) (fun h788 => zt_rfl)) (zm_c (zl_c zz_s (zl_c zz_s (zl_c zz_s (zl_c (zl_v zz_e) zz_s)))) zz_s zz_e)) (zr_5_4 i74_21 kc_1 (zr_17 i74_22 (zt_rfl)))))))))))))
def k74_4 (x1 x2 : Int32) (j : Nat) (a : Int32 × zS) : Int32 × zS := ((if ((a.2 24 j) = x1) then ((a.1 + 1) : Int32) else a.1), (if ((a.2 24 j) = x1) then (z_up a.2 24 j x2) else a.2))
set_option maxRecDepth 100000 in
theorem l74_4 {L : Nat} (x1 x2 : Int32) (i0 n : Nat) (a : Int32 × zS) (hn : i0 + n < 2147483648) (hc0 : ∀ j, j < n → ¬ (18 ≤ (Int32.ofNat (i0 + j)))) (g0 : ∀ j, j < n → (¬ (18 ≤ (Int32.ofNat (i0 + j)))) → zx 18 (Int32.ofNat (i0 + j))) : zt L 74 4 [some (.inr (.inr 4)), some (.inl x1), some (.inl x2), some (.inl a.1), some (.inl (Int32.ofNat i0))] [] a.2 (.inl (4, [some (.inr (.inr 4)), some (.inl x1), some (.inl x2), some (.inl (zfold (k74_4 x1 x2 ) i0 n a).1), some (.inl (Int32.ofNat (i0 + n)))], [], (zfold (k74_4 x1 x2 ) i0 n a).2)) := by
  induction n with
  | zero => exact zt_rfl
  | succ n ih =>
    have e1 := zk_ix (i0 + n) (by omega)
    have e2 := zk_add (i0 + n)
    refine zt_trans (ih (by omega) (fun j hj => hc0 j (by omega)) (fun j hj => g0 j (by omega))) ?_
    refine zt_cast (s74_4 x1 x2 (zfold (k74_4 x1 x2 ) i0 n a).1 (Int32.ofNat (i0 + n)) (zfold (k74_4 x1 x2 ) i0 n a).2 (by have hg := g0 n (by omega); first | exact hg | (simp only [e1]; exact hg))) ?_
    rw [if_neg (show ¬ (18 ≤ (Int32.ofNat (i0 + n))) from (by have hg := hc0 n (by omega); first | exact hg | (simp only [e1]; exact hg)))]
    simp only [zfold, k74_4, e1, e2, ← Nat.add_assoc]
def K74_4 (x1 x2 x3 : Int32) (i0 : Nat) (S : zS) : Int32 × zS := zfold (k74_4 x1 x2 ) i0 (18 - i0) (x3, S)
def K74_4_c3 (x1 x2 x3 : Int32) (i0 : Nat) (S : zS) : Int32 := (K74_4 x1 x2 x3 i0 S).1
def K74_4_S (x1 x2 x3 : Int32) (i0 : Nat) (S : zS) : zS := (K74_4 x1 x2 x3 i0 S).2
set_option maxRecDepth 100000 in
theorem L74_4 {L : Nat} (x1 x2 x3 : Int32) (i0 : Nat) (S : zS) (hi : i0 ≤ 10000) : zt L 74 4 [some (.inr (.inr 4)), some (.inl x1), some (.inl x2), some (.inl x3), some (.inl (Int32.ofNat i0))] [] S (.inl (23, [some (.inr (.inr 4)), some (.inl x1), some (.inl x2), some (.inl (K74_4_c3 x1 x2 x3 i0 S)), some (.inl (Int32.ofNat (i0 + (18 - i0))))], [], (K74_4_S x1 x2 x3 i0 S))) := by
  have hend : 18 ≤ Int32.ofNat (i0 + (18 - i0)) := by exact zc_le_end (show zn 18 18 from by unfold zn; decide) (by omega)
  refine zt_trans (l74_4 x1 x2   i0 (18 - i0) (x3, S) (by omega) (fun j hj => by exact zc_le (show zn 18 18 from by unfold zn; decide) hj (by omega)) (fun j hj _ => by exact zx_of (by omega) (by omega))) ?_
  exact zt_cast (s74_4 x1 x2 (zfold (k74_4 x1 x2 ) i0 (18 - i0) (x3, S)).1 (Int32.ofNat (i0 + (18 - i0))) (zfold (k74_4 x1 x2 ) i0 (18 - i0) (x3, S)).2 (fun h9 => absurd hend h9)) (if_pos hend)
set_option maxRecDepth 100000 in
theorem f74 {L : Nat} (a b : Int32) (S : zS) : zf L 74 [.inr (.inr 4), .inl a, .inl b] S (.inl (some (.inl (K74_4_c3 a b 0 0 S))), (K74_4_S a b 0 0 S), 0) := zf_of (en_74 _ _ _) (zr_0 i74_0 kc_0 (zr_3_3 i74_1 (zr_0 i74_2 kc_0 (zr_3_4 i74_3 (zt_trans (L74_4 a b 0 0 S (by decide) ) (zr_1_3 i74_23 (zr_25 i74_24)))))))
set_option maxRecDepth 100000 in
theorem s75_2 {L : Nat} (x1 x2 x3 : Int32) (S : zS) (g0 : (¬ (4 ≤ x3)) → zx 4 x3) : zt L 75 2 [some (.inr (.inr 4)), some (.inl x1), some (.inl x2), some (.inl x3)] [] S (if (4 ≤ x3) then (.inl (19, [some (.inr (.inr 4)), some (.inl x1), some (.inl x2), some (.inl x3)], [], S)) else (.inl (2, [some (.inr (.inr 4)), some (.inl x1), some (.inl x2), some (.inl (x3 + 1))], [], (if (((zshr (S 28 x3.toNatClampNeg) x1) &&& 1) = 1) then (z_up (z_up S 28 x3.toNatClampNeg (if (0 = 0) then (((S 28 x3.toNatClampNeg) &&& ((zshl 1 x1) ^^^ (-1))) : Int32) else ((S 28 x3.toNatClampNeg) ||| (zshl 1 x1)))) 28 x3.toNatClampNeg (if (1 = 0) then ((((z_up S 28 x3.toNatClampNeg (if (0 = 0) then (((S 28 x3.toNatClampNeg) &&& ((zshl 1 x1) ^^^ (-1))) : Int32) else ((S 28 x3.toNatClampNeg) ||| (zshl 1 x1)))) 28 x3.toNatClampNeg) &&& ((zshl 1 x2) ^^^ (-1))) : Int32) else (((z_up S 28 x3.toNatClampNeg (if (0 = 0) then (((S 28 x3.toNatClampNeg) &&& ((zshl 1 x1) ^^^ (-1))) : Int32) else ((S 28 x3.toNatClampNeg) ||| (zshl 1 x1)))) 28 x3.toNatClampNeg) ||| (zshl 1 x2)))) else (z_up S 28 x3.toNatClampNeg (if (0 = 0) then (((S 28 x3.toNatClampNeg) &&& ((zshl 1 x1) ^^^ (-1))) : Int32) else ((S 28 x3.toNatClampNeg) ||| (zshl 1 x1)))))))) := zr_1_3 i75_2 (zr_0 i75_3 kc_4 (zr_19_3 i75_4 (fun h797 => zt_rfl) (fun h798 => zr_2_0 i75_5 (zr_1_3 i75_6 (zr_1_1 i75_7 (zr_0 i75_8 kc_0 (zr_cv (zs_21_3 i75_9 na_76 ob_4 rfl) (f76 x3 x1 0 S (g0 h798)) (zt_trans (zt_cast (zr_18b_0 i75_10 (fun h799 => zr_2_0 i75_11 (zr_1_3 i75_12 (zr_1_2 i75_13 (zr_0 i75_14 kc_1 (zr_cv (zs_21_3 i75_15 na_76 ob_4 rfl) (f76 x3 x2 1 (z_up S 28 x3.toNatClampNeg (if (0 = 0) then (((S 28 x3.toNatClampNeg) &&& ((zshl 1 x1) ^^^ (-1))) : Int32) else ((S 28 x3.toNatClampNeg) ||| (zshl 1 x1)))) (g0 h798)) (zr_16 i75_16 (zt_rfl))))))) (fun h800 => zt_rfl)) (zm_c zz_s zz_s zz_e)) (zr_5_3 i75_17 kc_1 (zr_17 i75_18 (zt_rfl)))))))))))
def k75_2 (x1 x2 : Int32) (j : Nat) (a : zS) : zS := (if (((zshr (a 28 j) x1) &&& 1) = 1) then (z_up (z_up a 28 j (if (0 = 0) then (((a 28 j) &&& ((zshl 1 x1) ^^^ (-1))) : Int32) else ((a 28 j) ||| (zshl 1 x1)))) 28 j (if (1 = 0) then ((((z_up a 28 j (if (0 = 0) then (((a 28 j) &&& ((zshl 1 x1) ^^^ (-1))) : Int32) else ((a 28 j) ||| (zshl 1 x1)))) 28 j) &&& ((zshl 1 x2) ^^^ (-1))) : Int32) else (((z_up a 28 j (if (0 = 0) then (((a 28 j) &&& ((zshl 1 x1) ^^^ (-1))) : Int32) else ((a 28 j) ||| (zshl 1 x1)))) 28 j) ||| (zshl 1 x2)))) else (z_up a 28 j (if (0 = 0) then (((a 28 j) &&& ((zshl 1 x1) ^^^ (-1))) : Int32) else ((a 28 j) ||| (zshl 1 x1)))))
set_option maxRecDepth 100000 in
theorem l75_2 {L : Nat} (x1 x2 : Int32) (i0 n : Nat) (a : zS) (hn : i0 + n < 2147483648) (hc0 : ∀ j, j < n → ¬ (4 ≤ (Int32.ofNat (i0 + j)))) (g0 : ∀ j, j < n → (¬ (4 ≤ (Int32.ofNat (i0 + j)))) → zx 4 (Int32.ofNat (i0 + j))) : zt L 75 2 [some (.inr (.inr 4)), some (.inl x1), some (.inl x2), some (.inl (Int32.ofNat i0))] [] a (.inl (2, [some (.inr (.inr 4)), some (.inl x1), some (.inl x2), some (.inl (Int32.ofNat (i0 + n)))], [], (zfold (k75_2 x1 x2 ) i0 n a))) := by
  induction n with
  | zero => exact zt_rfl
  | succ n ih =>
    have e1 := zk_ix (i0 + n) (by omega)
    have e2 := zk_add (i0 + n)
    refine zt_trans (ih (by omega) (fun j hj => hc0 j (by omega)) (fun j hj => g0 j (by omega))) ?_
    refine zt_cast (s75_2 x1 x2 (Int32.ofNat (i0 + n)) (zfold (k75_2 x1 x2 ) i0 n a) (by have hg := g0 n (by omega); first | exact hg | (simp only [e1]; exact hg))) ?_
    rw [if_neg (show ¬ (4 ≤ (Int32.ofNat (i0 + n))) from (by have hg := hc0 n (by omega); first | exact hg | (simp only [e1]; exact hg)))]
    simp only [zfold, k75_2, e1, e2, ← Nat.add_assoc]
def K75_2 (x1 x2 : Int32) (i0 : Nat) (S : zS) : zS := zfold (k75_2 x1 x2 ) i0 (4 - i0) S
def K75_2_S (x1 x2 : Int32) (i0 : Nat) (S : zS) : zS := (K75_2 x1 x2 i0 S)
set_option maxRecDepth 100000 in
theorem L75_2 {L : Nat} (x1 x2 : Int32) (i0 : Nat) (S : zS) (hi : i0 ≤ 10000) : zt L 75 2 [some (.inr (.inr 4)), some (.inl x1), some (.inl x2), some (.inl (Int32.ofNat i0))] [] S (.inl (19, [some (.inr (.inr 4)), some (.inl x1), some (.inl x2), some (.inl (Int32.ofNat (i0 + (4 - i0))))], [], (K75_2_S x1 x2 i0 S))) := by
  have hend : 4 ≤ Int32.ofNat (i0 + (4 - i0)) := by exact zc_le_end (show zn 4 4 from by unfold zn; decide) (by omega)
  refine zt_trans (l75_2 x1 x2   i0 (4 - i0) S (by omega) (fun j hj => by exact zc_le (show zn 4 4 from by unfold zn; decide) hj (by omega)) (fun j hj _ => by exact zx_of (by omega) (by omega))) ?_
  exact zt_cast (s75_2 x1 x2 (Int32.ofNat (i0 + (4 - i0))) (zfold (k75_2 x1 x2 ) i0 (4 - i0) S) (fun h9 => absurd hend h9)) (if_pos hend)
set_option maxRecDepth 100000 in
theorem f75 {L : Nat} (a b : Int32) (S : zS) : zf L 75 [.inr (.inr 4), .inl a, .inl b] S (.inl none, (K75_2_S a b 0 S), 0) := zf_of (en_75 _ _ _) (zr_0 i75_0 kc_0 (zr_3_3 i75_1 (zt_trans (L75_2 a b 0 S (by decide) ) (zr_27 i75_19))))
set_option maxRecDepth 100000 in
theorem s93_10 {L : Nat} (x1 x2 x3 x4 x5 : Int32) (S : zS) : zt L 93 10 [some (.inr (.inr 1)), some (.inl x1), some (.inl x2), some (.inl x3), some (.inl x4), some (.inl x5)] [] S (if (x2 ≤ x5) then (.inl (21, [some (.inr (.inr 1)), some (.inl x1), some (.inl x2), some (.inl x3), some (.inl x4), some (.inl x5)], [], S)) else (.inl (10, [some (.inr (.inr 1)), some (.inl x1), some (.inl x2), some (.inl x3), some (.inl (zrem (x4 * x3) 257)), some (.inl (x5 + 1))], [], S))) := zr_1_5 i93_10 (zr_1_2 i93_11 (zr_19_3 i93_12 (fun h811 => zt_rfl) (fun h812 => zr_1_4 i93_13 (zr_1_3 i93_14 (zr_13_2 i93_15 (zr_0 i93_16 kc_257 (zr_13_4 i93_17 nz_257 (zr_3_4 i93_18 (zr_5_5 i93_19 kc_1 (zr_17 i93_20 (zt_rfl)))))))))))
def k93_10 (x1 x2 x3 : Int32) (S : zS) (j : Nat) (a : Int32) : Int32 := (zrem (a * x3) 257)
set_option maxRecDepth 100000 in
theorem l93_10 {L : Nat} (x1 x2 x3 : Int32) (S : zS) (i0 n : Nat) (a : Int32) (hn : i0 + n < 2147483648) (hc0 : ∀ j, j < n → ¬ (x2 ≤ (Int32.ofNat (i0 + j)))) : zt L 93 10 [some (.inr (.inr 1)), some (.inl x1), some (.inl x2), some (.inl x3), some (.inl a), some (.inl (Int32.ofNat i0))] [] S (.inl (10, [some (.inr (.inr 1)), some (.inl x1), some (.inl x2), some (.inl x3), some (.inl (zfold (k93_10 x1 x2 x3 S) i0 n a)), some (.inl (Int32.ofNat (i0 + n)))], [], S)) := by
  induction n with
  | zero => exact zt_rfl
  | succ n ih =>
    have e1 := zk_ix (i0 + n) (by omega)
    have e2 := zk_add (i0 + n)
    refine zt_trans (ih (by omega) (fun j hj => hc0 j (by omega))) ?_
    refine zt_cast (s93_10 x1 x2 x3 (zfold (k93_10 x1 x2 x3 S) i0 n a) (Int32.ofNat (i0 + n)) S) ?_
    rw [if_neg (show ¬ (x2 ≤ (Int32.ofNat (i0 + n))) from (by have hg := hc0 n (by omega); first | exact hg | (simp only [e1]; exact hg)))]
    simp only [zfold, k93_10, e1, e2, ← Nat.add_assoc]
def K93_10 (x1 x2 x3 x4 : Int32) (i0 : Nat) (S : zS) : Int32 := zfold (k93_10 x1 x2 x3 S) i0 (x2.toNatClampNeg - i0) x4
def K93_10_c4 (x1 x2 x3 x4 : Int32) (i0 : Nat) (S : zS) : Int32 := (K93_10 x1 x2 x3 x4 i0 S)
set_option maxRecDepth 100000 in
theorem L93_10 {L : Nat} (x1 x2 x3 x4 : Int32) (i0 : Nat) (S : zS) (hi : i0 ≤ 10000) (h0 : zn 600 x2) : zt L 93 10 [some (.inr (.inr 1)), some (.inl x1), some (.inl x2), some (.inl x3), some (.inl x4), some (.inl (Int32.ofNat i0))] [] S (.inl (21, [some (.inr (.inr 1)), some (.inl x1), some (.inl x2), some (.inl x3), some (.inl (K93_10_c4 x1 x2 x3 x4 i0 S)), some (.inl (Int32.ofNat (i0 + (x2.toNatClampNeg - i0))))], [], S)) := by
  have hend : x2 ≤ Int32.ofNat (i0 + (x2.toNatClampNeg - i0)) := by exact zc_le_end h0 (by omega)
  refine zt_trans (l93_10 x1 x2 x3  S i0 (x2.toNatClampNeg - i0) x4 (by have := zn_cl h0; omega) (fun j hj => by exact zc_le h0 hj (by omega)) ) ?_
  exact zt_cast (s93_10 x1 x2 x3 (zfold (k93_10 x1 x2 x3 S) i0 (x2.toNatClampNeg - i0) x4) (Int32.ofNat (i0 + (x2.toNatClampNeg - i0))) S ) (if_pos hend)
set_option maxRecDepth 100000 in
theorem s93_2 {L : Nat} (x1 x2 x3 : Int32) (u4 u5 : Option zV) (S : zS) (g0 : (¬ ((S 1 1) < x3)) → zn 600 x2) (g1 : (¬ ((S 1 1) < x3)) → zx 7 x3) : zt L 93 2 [some (.inr (.inr 1)), some (.inl x1), some (.inl x2), some (.inl x3), u4, u5] [] S (if ((S 1 1) < x3) then (.inl (35, [some (.inr (.inr 1)), some (.inl x1), some (.inl x2), some (.inl x3), u4, u5], [], S)) else (.inl (2, [some (.inr (.inr 1)), some (.inl x1), some (.inl x2), some (.inl (x3 + 1)), some (.inl (K93_10_c4 x1 x2 x3 x1 0 S)), some (.inl (Int32.ofNat (0 + (x2.toNatClampNeg - 0))))], [], (z_up S 14 x3.toNatClampNeg (zrem ((S 14 x3.toNatClampNeg) + (K93_10_c4 x1 x2 x3 x1 0 S)) 257))))) := zr_1_3 i93_2 (zr_2_0 i93_3 (zr_6 i93_4 fl_1_1 rfl (zr_19_4 i93_5 (fun h813 => zt_rfl) (fun h814 => zr_1_1 i93_6 (zr_3_4 i93_7 (zr_0 i93_8 kc_0 (zr_3_5 i93_9 (zt_trans (L93_10 x1 x2 x3 x1 0 S (by decide) (g0 h814)) (zr_2_0 i93_21 (zr_6r i93_22 fl_1_3 (zr_1_3 i93_23 (zr_2_0 i93_24 (zr_6r i93_25 fl_1_3 (zr_1_3 i93_26 (zr_8 i93_27 ar_14 (g1 h814) rfl rfl (zr_1_4 i93_28 (zr_13_0 i93_29 (zr_0 i93_30 kc_257 (zr_13_4 i93_31 nz_257 (zr_10 i93_32 ar_14 (g1 h814) rfl (zr_5_3 i93_33 kc_1 (zr_17 i93_34 (zt_rfl)))))))))))))))))))))))
def k93_2 (x1 x2 : Int32) (j : Nat) (a : Option zV × Option zV × zS) : Option zV × Option zV × zS := ((some (.inl (K93_10_c4 x1 x2 (Int32.ofNat j) x1 0 a.2.2))), (some (.inl (Int32.ofNat (0 + (x2.toNatClampNeg - 0))))), (z_up a.2.2 14 j (zrem ((a.2.2 14 j) + (K93_10_c4 x1 x2 (Int32.ofNat j) x1 0 a.2.2)) 257)))
set_option maxRecDepth 100000 in
theorem l93_2 {L : Nat} (x1 x2 : Int32) (i0 n : Nat) (a : Option zV × Option zV × zS) (hn : i0 + n < 2147483648) (hc0 : ∀ j, j < n → ¬ (((zfold (k93_2 x1 x2 ) i0 j a).2.2 1 1) < (Int32.ofNat (i0 + j)))) (g0 : ∀ j, j < n → (¬ (((zfold (k93_2 x1 x2 ) i0 j a).2.2 1 1) < (Int32.ofNat (i0 + j)))) → zn 600 x2) (g1 : ∀ j, j < n → (¬ (((zfold (k93_2 x1 x2 ) i0 j a).2.2 1 1) < (Int32.ofNat (i0 + j)))) → zx 7 (Int32.ofNat (i0 + j))) : zt L 93 2 [some (.inr (.inr 1)), some (.inl x1), some (.inl x2), some (.inl (Int32.ofNat i0)), a.1, a.2.1] [] a.2.2 (.inl (2, [some (.inr (.inr 1)), some (.inl x1), some (.inl x2), some (.inl (Int32.ofNat (i0 + n))), (zfold (k93_2 x1 x2 ) i0 n a).1, (zfold (k93_2 x1 x2 ) i0 n a).2.1], [], (zfold (k93_2 x1 x2 ) i0 n a).2.2)) := by
  induction n with
  | zero => exact zt_rfl
  | succ n ih =>
    have e1 := zk_ix (i0 + n) (by omega)
    have e2 := zk_add (i0 + n)
    refine zt_trans (ih (by omega) (fun j hj => hc0 j (by omega)) (fun j hj => g0 j (by omega)) (fun j hj => g1 j (by omega))) ?_
    refine zt_cast (s93_2 x1 x2 (Int32.ofNat (i0 + n)) (zfold (k93_2 x1 x2 ) i0 n a).1 (zfold (k93_2 x1 x2 ) i0 n a).2.1 (zfold (k93_2 x1 x2 ) i0 n a).2.2 (by have hg := g0 n (by omega); first | exact hg | (simp only [e1]; exact hg)) (by have hg := g1 n (by omega); first | exact hg | (simp only [e1]; exact hg))) ?_
    rw [if_neg (show ¬ (((zfold (k93_2 x1 x2 ) i0 n a).2.2 1 1) < (Int32.ofNat (i0 + n))) from (by have hg := hc0 n (by omega); first | exact hg | (simp only [e1]; exact hg)))]
    simp only [zfold, k93_2, e1, e2, ← Nat.add_assoc]
def K93_2 (x1 x2 : Int32) (u4 u5 : Option zV) (i0 : Nat) (S : zS) : Option zV × Option zV × zS := zfold (k93_2 x1 x2 ) i0 ((S 1 1).toNatClampNeg + 1 - i0) (u4, u5, S)
def K93_2_c4 (x1 x2 : Int32) (u4 u5 : Option zV) (i0 : Nat) (S : zS) : Option zV := (K93_2 x1 x2 u4 u5 i0 S).1
def K93_2_c5 (x1 x2 : Int32) (u4 u5 : Option zV) (i0 : Nat) (S : zS) : Option zV := (K93_2 x1 x2 u4 u5 i0 S).2.1
def K93_2_S (x1 x2 : Int32) (u4 u5 : Option zV) (i0 : Nat) (S : zS) : zS := (K93_2 x1 x2 u4 u5 i0 S).2.2
set_option maxRecDepth 100000 in
theorem L93_2 {L : Nat} (x1 x2 : Int32) (u4 u5 : Option zV) (i0 : Nat) (S : zS) (hi : i0 ≤ 10000) (h0 : zn 6 (S 1 1)) (hq1 : zn 600 x2) : zt L 93 2 [some (.inr (.inr 1)), some (.inl x1), some (.inl x2), some (.inl (Int32.ofNat i0)), u4, u5] [] S (.inl (35, [some (.inr (.inr 1)), some (.inl x1), some (.inl x2), some (.inl (Int32.ofNat (i0 + ((S 1 1).toNatClampNeg + 1 - i0)))), (K93_2_c4 x1 x2 u4 u5 i0 S), (K93_2_c5 x1 x2 u4 u5 i0 S)], [], (K93_2_S x1 x2 u4 u5 i0 S))) := by
  have hk1_1 : ∀ n, (zfold (k93_2 x1 x2 ) i0 n (u4, u5, S)).2.2 1 1 = S 1 1 := fun n => zfold_keep (f := (k93_2 x1 x2 )) (fun (b : Option zV × Option zV × zS) => b.2.2 1 1) (fun j b => by unfold k93_2; exact (show (z_up b.2.2 14 j (zrem ((b.2.2 14 j) + (K93_10_c4 x1 x2 (Int32.ofNat j) x1 0 b.2.2)) 257)) 1 1 = b.2.2 1 1 from (zupci rfl))) n (u4, u5, S)
  have hend : (zfold (k93_2 x1 x2 ) i0 ((S 1 1).toNatClampNeg + 1 - i0) (u4, u5, S)).2.2 1 1 < Int32.ofNat (i0 + ((S 1 1).toNatClampNeg + 1 - i0)) := by rw [hk1_1]; exact zc_lt_end h0 (by omega) (by omega)
  refine zt_trans (l93_2 x1 x2   i0 ((S 1 1).toNatClampNeg + 1 - i0) (u4, u5, S) (by have := zn_cl h0; omega) (fun j hj => by rw [hk1_1]; exact zc_lt h0 hj (by omega)) (fun j hj _ => by exact hq1) (fun j hj _ => by exact zx_of (by have := zn_cl h0; omega) (by have := zn_cl h0; omega))) ?_
  exact zt_cast (s93_2 x1 x2 (Int32.ofNat (i0 + ((S 1 1).toNatClampNeg + 1 - i0))) (zfold (k93_2 x1 x2 ) i0 ((S 1 1).toNatClampNeg + 1 - i0) (u4, u5, S)).1 (zfold (k93_2 x1 x2 ) i0 ((S 1 1).toNatClampNeg + 1 - i0) (u4, u5, S)).2.1 (zfold (k93_2 x1 x2 ) i0 ((S 1 1).toNatClampNeg + 1 - i0) (u4, u5, S)).2.2 (fun h9 => absurd hend h9) (fun h9 => absurd hend h9)) (if_pos hend)
set_option maxRecDepth 100000 in
theorem f93 {L : Nat} (a b : Int32) (S : zS) (g0 : zn 6 (S 1 1)) (g1 : zn 600 b) : zf L 93 [.inr (.inr 1), .inl a, .inl b] S (.inl none, (K93_2_S a b (none : Option zV) (none : Option zV) 1 S), 0) := zf_of (en_93 _ _ _) (zr_0 i93_0 kc_1 (zr_3_3 i93_1 (zt_trans (L93_2 a b (none : Option zV) (none : Option zV) 1 S (by decide) (g0) (g1)) (zr_27 i93_35))))
set_option maxRecDepth 100000 in
theorem s87_36 {L : Nat} (x1 x2 x3 x4 x5 : Int32) (S : zS) (g0 : zn 6 (S 1 1)) (g1 : (¬ ((S 1 2) ≤ x5)) → zn 600 x5) : zt L 87 36 [some (.inr (.inr 1)), some (.inl x1), some (.inl x2), some (.inl x3), some (.inl x4), some (.inl x5)] [] S (if ((S 1 2) ≤ x5) then (.inl (51, [some (.inr (.inr 1)), some (.inl x1), some (.inl x2), some (.inl x3), some (.inl x4), some (.inl x5)], [], S)) else (.inl (36, [some (.inr (.inr 1)), some (.inl x1), some (.inl x2), some (.inl x3), some (.inl (zrem ((1103 * x4) + 12345) 65536)), some (.inl (x5 + 1))], [], (K93_2_S (zrem (zrem ((1103 * x4) + 12345) 65536) 257) x5 (none : Option zV) (none : Option zV) 1 S)))) := zr_1_5 i87_36 (zr_2_0 i87_37 (zr_6 i87_38 fl_1_2 rfl (zr_19_3 i87_39 (fun h827 => zt_rfl) (fun h828 => zr_1_4 i87_40 (zr_cv (zs_22_1 i87_41 na_92 rfl) (f92 x4 S ) (zr_3_4 i87_42 (zr_2_0 i87_43 (zr_1_4 i87_44 (zr_0 i87_45 kc_257 (zr_13_4 i87_46 nz_257 (zr_1_5 i87_47 (zr_cn (zs_21_2 i87_48 na_93 ob_1 rfl) (f93 (zrem (zrem ((1103 * x4) + 12345) 65536) 257) x5 S (g0) (g1 h828)) (zr_5_5 i87_49 kc_1 (zr_17 i87_50 (zt_rfl)))))))))))))))
def k87_36 (x1 x2 x3 : Int32) (j : Nat) (a : Int32 × zS) : Int32 × zS := ((zrem ((1103 * a.1) + 12345) 65536), (K93_2_S (zrem (zrem ((1103 * a.1) + 12345) 65536) 257) (Int32.ofNat j) (none : Option zV) (none : Option zV) 1 a.2))
set_option maxRecDepth 100000 in
theorem l87_36 {L : Nat} (x1 x2 x3 : Int32) (i0 n : Nat) (a : Int32 × zS) (hn : i0 + n < 2147483648) (hc0 : ∀ j, j < n → ¬ (((zfold (k87_36 x1 x2 x3 ) i0 j a).2 1 2) ≤ (Int32.ofNat (i0 + j)))) (g0 : ∀ j, j < n → zn 6 ((zfold (k87_36 x1 x2 x3 ) i0 j a).2 1 1)) (g1 : ∀ j, j < n → (¬ (((zfold (k87_36 x1 x2 x3 ) i0 j a).2 1 2) ≤ (Int32.ofNat (i0 + j)))) → zn 600 (Int32.ofNat (i0 + j))) : zt L 87 36 [some (.inr (.inr 1)), some (.inl x1), some (.inl x2), some (.inl x3), some (.inl a.1), some (.inl (Int32.ofNat i0))] [] a.2 (.inl (36, [some (.inr (.inr 1)), some (.inl x1), some (.inl x2), some (.inl x3), some (.inl (zfold (k87_36 x1 x2 x3 ) i0 n a).1), some (.inl (Int32.ofNat (i0 + n)))], [], (zfold (k87_36 x1 x2 x3 ) i0 n a).2)) := by
  induction n with
  | zero => exact zt_rfl
  | succ n ih =>
    have e1 := zk_ix (i0 + n) (by omega)
    have e2 := zk_add (i0 + n)
    refine zt_trans (ih (by omega) (fun j hj => hc0 j (by omega)) (fun j hj => g0 j (by omega)) (fun j hj => g1 j (by omega))) ?_
    refine zt_cast (s87_36 x1 x2 x3 (zfold (k87_36 x1 x2 x3 ) i0 n a).1 (Int32.ofNat (i0 + n)) (zfold (k87_36 x1 x2 x3 ) i0 n a).2 (by have hg := g0 n (by omega); first | exact hg | (simp only [e1]; exact hg)) (by have hg := g1 n (by omega); first | exact hg | (simp only [e1]; exact hg))) ?_
    rw [if_neg (show ¬ (((zfold (k87_36 x1 x2 x3 ) i0 n a).2 1 2) ≤ (Int32.ofNat (i0 + n))) from (by have hg := hc0 n (by omega); first | exact hg | (simp only [e1]; exact hg)))]
    simp only [zfold, k87_36, e1, e2, ← Nat.add_assoc]
set_option maxRecDepth 100000 in
theorem w_K93_2_S_1_2 (x1 x2 : Int32) (u4 u5 : Option zV) (i0 : Nat) (S : zS) : K93_2_S x1 x2 u4 u5 i0 S 1 2 = S 1 2 := zfold_keep (f := (k93_2 x1 x2 )) (fun (b : Option zV × Option zV × zS) => b.2.2 1 2) ((fun j b => by unfold k93_2; exact (show (z_up b.2.2 14 j (zrem ((b.2.2 14 j) + (K93_10_c4 x1 x2 (Int32.ofNat j) x1 0 b.2.2)) 257)) 1 2 = b.2.2 1 2 from (zupci rfl)))) _ _
set_option maxRecDepth 100000 in
theorem w_K93_2_S_1_1 (x1 x2 : Int32) (u4 u5 : Option zV) (i0 : Nat) (S : zS) : K93_2_S x1 x2 u4 u5 i0 S 1 1 = S 1 1 := zfold_keep (f := (k93_2 x1 x2 )) (fun (b : Option zV × Option zV × zS) => b.2.2 1 1) ((fun j b => by unfold k93_2; exact (show (z_up b.2.2 14 j (zrem ((b.2.2 14 j) + (K93_10_c4 x1 x2 (Int32.ofNat j) x1 0 b.2.2)) 257)) 1 1 = b.2.2 1 1 from (zupci rfl)))) _ _
def K87_36 (x1 x2 x3 x4 : Int32) (i0 : Nat) (S : zS) : Int32 × zS := zfold (k87_36 x1 x2 x3 ) i0 ((S 1 2).toNatClampNeg - i0) (x4, S)
def K87_36_c4 (x1 x2 x3 x4 : Int32) (i0 : Nat) (S : zS) : Int32 := (K87_36 x1 x2 x3 x4 i0 S).1
def K87_36_S (x1 x2 x3 x4 : Int32) (i0 : Nat) (S : zS) : zS := (K87_36 x1 x2 x3 x4 i0 S).2
set_option maxRecDepth 100000 in
theorem L87_36 {L : Nat} (x1 x2 x3 x4 : Int32) (i0 : Nat) (S : zS) (hi : i0 ≤ 10000) (h0 : zn 6 (S 1 2)) (hz1 : zn 6 (S 1 1)) : zt L 87 36 [some (.inr (.inr 1)), some (.inl x1), some (.inl x2), some (.inl x3), some (.inl x4), some (.inl (Int32.ofNat i0))] [] S (.inl (51, [some (.inr (.inr 1)), some (.inl x1), some (.inl x2), some (.inl x3), some (.inl (K87_36_c4 x1 x2 x3 x4 i0 S)), some (.inl (Int32.ofNat (i0 + ((S 1 2).toNatClampNeg - i0))))], [], (K87_36_S x1 x2 x3 x4 i0 S))) := by
  have hk1_2 : ∀ n, (zfold (k87_36 x1 x2 x3 ) i0 n (x4, S)).2 1 2 = S 1 2 := fun n => zfold_keep (f := (k87_36 x1 x2 x3 )) (fun (b : Int32 × zS) => b.2 1 2) (fun j b => by unfold k87_36; exact (show (K93_2_S (zrem (zrem ((1103 * b.1) + 12345) 65536) 257) (Int32.ofNat j) (none : Option zV) (none : Option zV) 1 b.2) 1 2 = b.2 1 2 from (w_K93_2_S_1_2 _ _ _ _ _ _))) n (x4, S)
  have hk1_1 : ∀ n, (zfold (k87_36 x1 x2 x3 ) i0 n (x4, S)).2 1 1 = S 1 1 := fun n => zfold_keep (f := (k87_36 x1 x2 x3 )) (fun (b : Int32 × zS) => b.2 1 1) (fun j b => by unfold k87_36; exact (show (K93_2_S (zrem (zrem ((1103 * b.1) + 12345) 65536) 257) (Int32.ofNat j) (none : Option zV) (none : Option zV) 1 b.2) 1 1 = b.2 1 1 from (w_K93_2_S_1_1 _ _ _ _ _ _))) n (x4, S)
  have hend : (zfold (k87_36 x1 x2 x3 ) i0 ((S 1 2).toNatClampNeg - i0) (x4, S)).2 1 2 ≤ Int32.ofNat (i0 + ((S 1 2).toNatClampNeg - i0)) := by rw [hk1_2]; exact zc_le_end h0 (by omega)
  refine zt_trans (l87_36 x1 x2 x3   i0 ((S 1 2).toNatClampNeg - i0) (x4, S) (by have := zn_cl h0; omega) (fun j hj => by rw [hk1_2]; exact zc_le h0 hj (by omega)) (fun j hj  => by rw [hk1_1 j]; exact hz1) (fun j hj _ => by have := zn_cl h0; exact zn_of (by omega))) ?_
  exact zt_cast (s87_36 x1 x2 x3 (zfold (k87_36 x1 x2 x3 ) i0 ((S 1 2).toNatClampNeg - i0) (x4, S)).1 (Int32.ofNat (i0 + ((S 1 2).toNatClampNeg - i0))) (zfold (k87_36 x1 x2 x3 ) i0 ((S 1 2).toNatClampNeg - i0) (x4, S)).2 (by rw [hk1_1 _]; exact hz1) (fun h9 => absurd hend h9)) (if_pos hend)
set_option maxRecDepth 100000 in
theorem s87_22 {L : Nat} (x1 x2 x3 x4 x5 : Int32) (S : zS) (g0 : (¬ ((S 1 1) < x5)) → zx 7 x5) : zt L 87 22 [some (.inr (.inr 1)), some (.inl x1), some (.inl x2), some (.inl x3), some (.inl x4), some (.inl x5)] [] S (if ((S 1 1) < x5) then (.inl (34, [some (.inr (.inr 1)), some (.inl x1), some (.inl x2), some (.inl x3), some (.inl x4), some (.inl x5)], [], S)) else (.inl (22, [some (.inr (.inr 1)), some (.inl x1), some (.inl x2), some (.inl x3), some (.inl x4), some (.inl (x5 + 1))], [], (z_up S 14 x5.toNatClampNeg (S 1 0))))) := zr_1_5 i87_22 (zr_2_0 i87_23 (zr_6 i87_24 fl_1_1 rfl (zr_19_4 i87_25 (fun h829 => zt_rfl) (fun h830 => zr_2_0 i87_26 (zr_6r i87_27 fl_1_3 (zr_1_5 i87_28 (zr_2_0 i87_29 (zr_6 i87_30 fl_1_0 rfl (zr_10 i87_31 ar_14 (g0 h830) rfl (zr_5_5 i87_32 kc_1 (zr_17 i87_33 (zt_rfl))))))))))))
def k87_22 (x1 x2 x3 x4 : Int32) (j : Nat) (a : zS) : zS := (z_up a 14 j (a 1 0))
set_option maxRecDepth 100000 in
theorem l87_22 {L : Nat} (x1 x2 x3 x4 : Int32) (i0 n : Nat) (a : zS) (hn : i0 + n < 2147483648) (hc0 : ∀ j, j < n → ¬ (((zfold (k87_22 x1 x2 x3 x4 ) i0 j a) 1 1) < (Int32.ofNat (i0 + j)))) (g0 : ∀ j, j < n → (¬ (((zfold (k87_22 x1 x2 x3 x4 ) i0 j a) 1 1) < (Int32.ofNat (i0 + j)))) → zx 7 (Int32.ofNat (i0 + j))) : zt L 87 22 [some (.inr (.inr 1)), some (.inl x1), some (.inl x2), some (.inl x3), some (.inl x4), some (.inl (Int32.ofNat i0))] [] a (.inl (22, [some (.inr (.inr 1)), some (.inl x1), some (.inl x2), some (.inl x3), some (.inl x4), some (.inl (Int32.ofNat (i0 + n)))], [], (zfold (k87_22 x1 x2 x3 x4 ) i0 n a))) := by
  induction n with
  | zero => exact zt_rfl
  | succ n ih =>
    have e1 := zk_ix (i0 + n) (by omega)
    have e2 := zk_add (i0 + n)
    refine zt_trans (ih (by omega) (fun j hj => hc0 j (by omega)) (fun j hj => g0 j (by omega))) ?_
    refine zt_cast (s87_22 x1 x2 x3 x4 (Int32.ofNat (i0 + n)) (zfold (k87_22 x1 x2 x3 x4 ) i0 n a) (by have hg := g0 n (by omega); first | exact hg | (simp only [e1]; exact hg))) ?_
    rw [if_neg (show ¬ (((zfold (k87_22 x1 x2 x3 x4 ) i0 n a) 1 1) < (Int32.ofNat (i0 + n))) from (by have hg := hc0 n (by omega); first | exact hg | (simp only [e1]; exact hg)))]
    simp only [zfold, k87_22, e1, e2, ← Nat.add_assoc]
def K87_22 (x1 x2 x3 x4 : Int32) (i0 : Nat) (S : zS) : zS := zfold (k87_22 x1 x2 x3 x4 ) i0 ((S 1 1).toNatClampNeg + 1 - i0) S
def K87_22_S (x1 x2 x3 x4 : Int32) (i0 : Nat) (S : zS) : zS := (K87_22 x1 x2 x3 x4 i0 S)
set_option maxRecDepth 100000 in
theorem L87_22 {L : Nat} (x1 x2 x3 x4 : Int32) (i0 : Nat) (S : zS) (hi : i0 ≤ 10000) (h0 : zn 6 (S 1 1)) : zt L 87 22 [some (.inr (.inr 1)), some (.inl x1), some (.inl x2), some (.inl x3), some (.inl x4), some (.inl (Int32.ofNat i0))] [] S (.inl (34, [some (.inr (.inr 1)), some (.inl x1), some (.inl x2), some (.inl x3), some (.inl x4), some (.inl (Int32.ofNat (i0 + ((S 1 1).toNatClampNeg + 1 - i0))))], [], (K87_22_S x1 x2 x3 x4 i0 S))) := by
  have hk1_1 : ∀ n, (zfold (k87_22 x1 x2 x3 x4 ) i0 n S) 1 1 = S 1 1 := fun n => zfold_keep (f := (k87_22 x1 x2 x3 x4 )) (fun (b : zS) => b 1 1) (fun j b => by unfold k87_22; exact (show (z_up b 14 j (b 1 0)) 1 1 = b 1 1 from (zupci rfl))) n S
  have hend : (zfold (k87_22 x1 x2 x3 x4 ) i0 ((S 1 1).toNatClampNeg + 1 - i0) S) 1 1 < Int32.ofNat (i0 + ((S 1 1).toNatClampNeg + 1 - i0)) := by rw [hk1_1]; exact zc_lt_end h0 (by omega) (by omega)
  refine zt_trans (l87_22 x1 x2 x3 x4   i0 ((S 1 1).toNatClampNeg + 1 - i0) S (by have := zn_cl h0; omega) (fun j hj => by rw [hk1_1]; exact zc_lt h0 hj (by omega)) (fun j hj _ => by exact zx_of (by have := zn_cl h0; omega) (by have := zn_cl h0; omega))) ?_
  exact zt_cast (s87_22 x1 x2 x3 x4 (Int32.ofNat (i0 + ((S 1 1).toNatClampNeg + 1 - i0))) (zfold (k87_22 x1 x2 x3 x4 ) i0 ((S 1 1).toNatClampNeg + 1 - i0) S) (fun h9 => absurd hend h9)) (if_pos hend)
set_option maxRecDepth 100000 in
theorem w_K87_22_S_1_2 (x1 x2 x3 x4 : Int32) (i0 : Nat) (S : zS) : K87_22_S x1 x2 x3 x4 i0 S 1 2 = S 1 2 := zfold_keep (f := (k87_22 x1 x2 x3 x4 )) (fun (b : zS) => b 1 2) ((fun j b => by unfold k87_22; exact (show (z_up b 14 j (b 1 0)) 1 2 = b 1 2 from (zupci rfl)))) _ _
set_option maxRecDepth 100000 in
theorem w_K87_22_S_1_1 (x1 x2 x3 x4 : Int32) (i0 : Nat) (S : zS) : K87_22_S x1 x2 x3 x4 i0 S 1 1 = S 1 1 := zfold_keep (f := (k87_22 x1 x2 x3 x4 )) (fun (b : zS) => b 1 1) ((fun j b => by unfold k87_22; exact (show (z_up b 14 j (b 1 0)) 1 1 = b 1 1 from (zupci rfl)))) _ _
def G87 (a b c : Int32) (S : zS) : zS := (K87_36_S a b c (if ((S 1 0) = (-1)) then ((zrem ((1103 * a) + 12345) 65536) : Int32) else a) 1 (K87_22_S a b c (if ((S 1 0) = (-1)) then ((zrem ((1103 * a) + 12345) 65536) : Int32) else a) 1 (z_up (z_up (if ((S 1 0) = (-1)) then (z_up S 1 0 (zrem (zrem ((1103 * a) + 12345) 65536) 257)) else S) 1 1 b) 1 2 c)))
set_option maxRecDepth 100000 in
theorem f87 {L : Nat} (a b c : Int32) (S : zS) (g0 : zn 6 ((z_up (if ((S 1 0) = (-1)) then (z_up S 1 0 (zrem (zrem ((1103 * a) + 12345) 65536) 257)) else S) 1 1 b) 1 1)) (g1 : zn 6 ((z_up (z_up (if ((S 1 0) = (-1)) then (z_up S 1 0 (zrem (zrem ((1103 * a) + 12345) 65536) 257)) else S) 1 1 b) 1 2 c) 1 2)) : zf L 87 [.inr (.inr 1), .inl a, .inl b, .inl c] S (.inl none, (G87 a b c S), 0) := zf_of (en_87 _ _ _ _) (zr_1_1 i87_0 (zr_3_4 i87_1 (zr_2_0 i87_2 (zr_6 i87_3 fl_1_0 rfl (zr_0 i87_4 kc_m1 (zt_trans (zt_cast (zr_19_1 i87_5 (fun h831 => zr_1_4 i87_6 (zr_cv (zs_22_1 i87_7 na_92 rfl) (f92 a S ) (zr_3_4 i87_8 (zr_2_0 i87_9 (zr_1_4 i87_10 (zr_0 i87_11 kc_257 (zr_13_4 i87_12 nz_257 (zr_7 i87_13 fl_1_0 (zt_rfl))))))))) (fun h832 => zt_rfl)) (zm_c (zl_c zz_s (zl_c zz_s (zl_c zz_s (zl_c zz_s (zl_c (zl_v zz_e) zz_s))))) zz_s zz_e)) (zr_2_0 i87_14 (zr_1_2 i87_15 (zr_7 i87_16 fl_1_1 (zr_2_0 i87_17 (zr_1_3 i87_18 (zr_7 i87_19 fl_1_2 (zr_0 i87_20 kc_1 (zr_3_5 i87_21 (zt_trans (L87_22 a b c (if ((S 1 0) = (-1)) then ((zrem ((1103 * a) + 12345) 65536) : Int32) else a) 1 (z_up (z_up (if ((S 1 0) = (-1)) then (z_up S 1 0 (zrem (zrem ((1103 * a) + 12345) 65536) 257)) else S) 1 1 b) 1 2 c) (by decide) (znv (zupf rfl) (g0))) (zr_0 i87_34 kc_1 (zr_3_5 i87_35 (zt_trans (L87_36 a b c (if ((S 1 0) = (-1)) then ((zrem ((1103 * a) + 12345) 65536) : Int32) else a) 1 (K87_22_S a b c (if ((S 1 0) = (-1)) then ((zrem ((1103 * a) + 12345) 65536) : Int32) else a) 1 (z_up (z_up (if ((S 1 0) = (-1)) then (z_up S 1 0 (zrem (zrem ((1103 * a) + 12345) 65536) 257)) else S) 1 1 b) 1 2 c)) (by decide) (znv (w_K87_22_S_1_2 _ _ _ _ _ _) (g1)) (znv ((w_K87_22_S_1_1 _ _ _ _ _ _).trans (zupf rfl)) (g0))) (zr_27 i87_51)))))))))))))))))))
set_option maxRecDepth 100000 in
theorem s98_6 {L : Nat} (x0 x1 x2 x3 : Int32) (S : zS) : zt L 98 6 [some (.inl x0), some (.inl x1), some (.inl x2), some (.inl x3)] [] S (if (8 ≤ x3) then (.inl (23, [some (.inl x0), some (.inl x1), some (.inl x2), some (.inl x3)], [], S)) else (.inl (6, [some (.inl x0), some (.inl (zrem (x1 * x2) 257)), some (.inl (zrem (x2 * x2) 257)), some (.inl (x3 + 1))], [], S))) := zr_1_3 i98_6 (zr_0 i98_7 kc_8 (zr_19_3 i98_8 (fun h837 => zt_rfl) (fun h838 => zr_1_1 i98_9 (zr_1_2 i98_10 (zr_13_2 i98_11 (zr_0 i98_12 kc_257 (zr_13_4 i98_13 nz_257 (zr_3_1 i98_14 (zr_1_2 i98_15 (zr_1_2 i98_16 (zr_13_2 i98_17 (zr_0 i98_18 kc_257 (zr_13_4 i98_19 nz_257 (zr_3_2 i98_20 (zr_5_3 i98_21 kc_1 (zr_17 i98_22 (zt_rfl)))))))))))))))))
def k98_6 (x0 : Int32) (S : zS) (j : Nat) (a : Int32 × Int32) : Int32 × Int32 := ((zrem (a.1 * a.2) 257), (zrem (a.2 * a.2) 257))
set_option maxRecDepth 100000 in
theorem l98_6 {L : Nat} (x0 : Int32) (S : zS) (i0 n : Nat) (a : Int32 × Int32) (hn : i0 + n < 2147483648) (hc0 : ∀ j, j < n → ¬ (8 ≤ (Int32.ofNat (i0 + j)))) : zt L 98 6 [some (.inl x0), some (.inl a.1), some (.inl a.2), some (.inl (Int32.ofNat i0))] [] S (.inl (6, [some (.inl x0), some (.inl (zfold (k98_6 x0 S) i0 n a).1), some (.inl (zfold (k98_6 x0 S) i0 n a).2), some (.inl (Int32.ofNat (i0 + n)))], [], S)) := by
  induction n with
  | zero => exact zt_rfl
  | succ n ih =>
    have e1 := zk_ix (i0 + n) (by omega)
    have e2 := zk_add (i0 + n)
    refine zt_trans (ih (by omega) (fun j hj => hc0 j (by omega))) ?_
    refine zt_cast (s98_6 x0 (zfold (k98_6 x0 S) i0 n a).1 (zfold (k98_6 x0 S) i0 n a).2 (Int32.ofNat (i0 + n)) S) ?_
    rw [if_neg (show ¬ (8 ≤ (Int32.ofNat (i0 + n))) from (by have hg := hc0 n (by omega); first | exact hg | (simp only [e1]; exact hg)))]
    simp only [zfold, k98_6, e1, e2, ← Nat.add_assoc]
def K98_6 (x0 x1 x2 : Int32) (i0 : Nat) (S : zS) : Int32 × Int32 := zfold (k98_6 x0 S) i0 (8 - i0) (x1, x2)
def K98_6_c1 (x0 x1 x2 : Int32) (i0 : Nat) (S : zS) : Int32 := (K98_6 x0 x1 x2 i0 S).1
def K98_6_c2 (x0 x1 x2 : Int32) (i0 : Nat) (S : zS) : Int32 := (K98_6 x0 x1 x2 i0 S).2
set_option maxRecDepth 100000 in
theorem L98_6 {L : Nat} (x0 x1 x2 : Int32) (i0 : Nat) (S : zS) (hi : i0 ≤ 10000) : zt L 98 6 [some (.inl x0), some (.inl x1), some (.inl x2), some (.inl (Int32.ofNat i0))] [] S (.inl (23, [some (.inl x0), some (.inl (K98_6_c1 x0 x1 x2 i0 S)), some (.inl (K98_6_c2 x0 x1 x2 i0 S)), some (.inl (Int32.ofNat (i0 + (8 - i0))))], [], S)) := by
  have hend : 8 ≤ Int32.ofNat (i0 + (8 - i0)) := by exact zc_le_end (show zn 8 8 from by unfold zn; decide) (by omega)
  refine zt_trans (l98_6 x0  S i0 (8 - i0) (x1, x2) (by omega) (fun j hj => by exact zc_le (show zn 8 8 from by unfold zn; decide) hj (by omega)) ) ?_
  exact zt_cast (s98_6 x0 (zfold (k98_6 x0 S) i0 (8 - i0) (x1, x2)).1 (zfold (k98_6 x0 S) i0 (8 - i0) (x1, x2)).2 (Int32.ofNat (i0 + (8 - i0))) S ) (if_pos hend)
set_option maxRecDepth 100000 in
theorem f98 {L : Nat} (a : Int32) (S : zS) : zf L 98 [.inl a] S (.inl (some (.inl (K98_6_c1 a 1 a 0 S))), S, 0) := zf_of (en_98 _) (zr_0 i98_0 kc_1 (zr_3_1 i98_1 (zr_1_0 i98_2 (zr_3_2 i98_3 (zr_0 i98_4 kc_0 (zr_3_3 i98_5 (zt_trans (L98_6 a 1 a 0 S (by decide) ) (zr_1_1 i98_23 (zr_25 i98_24)))))))))
set_option maxRecDepth 100000 in
theorem s97_4 {L : Nat} (x1 x2 x3 : Int32) (S : zS) (g0 : (¬ ((S 1 1) < x3)) → zx 7 x3) : zt L 97 4 [some (.inr (.inr 1)), some (.inl x1), some (.inl x2), some (.inl x3)] [] S (if ((S 1 1) < x3) then (.inl (34, [some (.inr (.inr 1)), some (.inl x1), some (.inl x2), some (.inl x3)], [], S)) else (.inl (4, [some (.inr (.inr 1)), some (.inl x1), some (.inl (if ((S 15 x3.toNatClampNeg) = (-1)) then (x2 : Int32) else (if (x3 = x1) then (x2 : Int32) else (zrem ((zrem (x2 * x3) 257) * (K98_6_c1 (F323 (x3 - x1) 257 S) 1 (F323 (x3 - x1) 257 S) 0 S)) 257)))), some (.inl (x3 + 1))], [], S))) := zr_1_3 i97_4 (zr_2_0 i97_5 (zr_6 i97_6 fl_1_1 rfl (zr_19_4 i97_7 (fun h851 => zt_rfl) (fun h852 => zr_2_0 i97_8 (zr_6r i97_9 fl_1_4 (zr_1_3 i97_10 (zr_8 i97_11 ar_15 (g0 h852) rfl rfl (zr_0 i97_12 kc_m1 (zt_trans (zt_cast (zr_19_0 i97_13 (fun h853 => zt_rfl) (fun h854 => zr_1_3 i97_14 (zr_1_1 i97_15 (zt_cast (zr_19_0 i97_16 (fun h855 => zt_rfl) (fun h856 => zr_1_2 i97_17 (zr_1_3 i97_18 (zr_13_2 i97_19 (zr_0 i97_20 kc_257 (zr_13_4 i97_21 nz_257 (zr_1_3 i97_22 (zr_1_1 i97_23 (zr_13_1 i97_24 (zr_0 i97_25 kc_257 (zr_cv (zs_22_2 i97_26 na_323 rfl) (f323 (x3 - x1) 257 S nz_257) (zr_cv (zs_22_1 i97_27 na_98 rfl) (f98 (F323 (x3 - x1) 257 S) S ) (zr_13_2 i97_28 (zr_0 i97_29 kc_257 (zr_13_4 i97_30 nz_257 (zr_3_2 i97_31 (zt_rfl))))))))))))))))) (zm_c (zl_c zz_s (zl_c zz_s (zl_c (zl_v zz_e) zz_s))) zz_s zz_s))))) (zm_c (zl_c zz_s (zl_c zz_s (zl_c (zl_v zz_e) zz_s))) zz_s zz_s)) (zr_5_3 i97_32 kc_1 (zr_17 i97_33 (zt_rfl))))))))))))
def k97_4 (x1 : Int32) (S : zS) (j : Nat) (a : Int32) : Int32 := (if ((S 15 j) = (-1)) then (a : Int32) else (if ((Int32.ofNat j) = x1) then (a : Int32) else (zrem ((zrem (a * (Int32.ofNat j)) 257) * (K98_6_c1 (F323 ((Int32.ofNat j) - x1) 257 S) 1 (F323 ((Int32.ofNat j) - x1) 257 S) 0 S)) 257)))
set_option maxRecDepth 100000 in
theorem l97_4 {L : Nat} (x1 : Int32) (S : zS) (i0 n : Nat) (a : Int32) (hn : i0 + n < 2147483648) (hc0 : ∀ j, j < n → ¬ ((S 1 1) < (Int32.ofNat (i0 + j)))) (g0 : ∀ j, j < n → (¬ ((S 1 1) < (Int32.ofNat (i0 + j)))) → zx 7 (Int32.ofNat (i0 + j))) : zt L 97 4 [some (.inr (.inr 1)), some (.inl x1), some (.inl a), some (.inl (Int32.ofNat i0))] [] S (.inl (4, [some (.inr (.inr 1)), some (.inl x1), some (.inl (zfold (k97_4 x1 S) i0 n a)), some (.inl (Int32.ofNat (i0 + n)))], [], S)) := by
  induction n with
  | zero => exact zt_rfl
  | succ n ih =>
    have e1 := zk_ix (i0 + n) (by omega)
    have e2 := zk_add (i0 + n)
    refine zt_trans (ih (by omega) (fun j hj => hc0 j (by omega)) (fun j hj => g0 j (by omega))) ?_
    refine zt_cast (s97_4 x1 (zfold (k97_4 x1 S) i0 n a) (Int32.ofNat (i0 + n)) S (by have hg := g0 n (by omega); first | exact hg | (simp only [e1]; exact hg))) ?_
    rw [if_neg (show ¬ ((S 1 1) < (Int32.ofNat (i0 + n))) from (by have hg := hc0 n (by omega); first | exact hg | (simp only [e1]; exact hg)))]
    simp only [zfold, k97_4, e1, e2, ← Nat.add_assoc]
def K97_4 (x1 x2 : Int32) (i0 : Nat) (S : zS) : Int32 := zfold (k97_4 x1 S) i0 ((S 1 1).toNatClampNeg + 1 - i0) x2
def K97_4_c2 (x1 x2 : Int32) (i0 : Nat) (S : zS) : Int32 := (K97_4 x1 x2 i0 S)
set_option maxRecDepth 100000 in
theorem L97_4 {L : Nat} (x1 x2 : Int32) (i0 : Nat) (S : zS) (hi : i0 ≤ 10000) (h0 : zn 6 (S 1 1)) : zt L 97 4 [some (.inr (.inr 1)), some (.inl x1), some (.inl x2), some (.inl (Int32.ofNat i0))] [] S (.inl (34, [some (.inr (.inr 1)), some (.inl x1), some (.inl (K97_4_c2 x1 x2 i0 S)), some (.inl (Int32.ofNat (i0 + ((S 1 1).toNatClampNeg + 1 - i0))))], [], S)) := by
  have hend : (S 1 1) < Int32.ofNat (i0 + ((S 1 1).toNatClampNeg + 1 - i0)) := by exact zc_lt_end h0 (by omega) (by omega)
  refine zt_trans (l97_4 x1  S i0 ((S 1 1).toNatClampNeg + 1 - i0) x2 (by have := zn_cl h0; omega) (fun j hj => by exact zc_lt h0 hj (by omega)) (fun j hj _ => by exact zx_of (by have := zn_cl h0; omega) (by have := zn_cl h0; omega))) ?_
  exact zt_cast (s97_4 x1 (zfold (k97_4 x1 S) i0 ((S 1 1).toNatClampNeg + 1 - i0) x2) (Int32.ofNat (i0 + ((S 1 1).toNatClampNeg + 1 - i0))) S (fun h9 => absurd hend h9)) (if_pos hend)
set_option maxRecDepth 100000 in
theorem f97 {L : Nat} (a : Int32) (S : zS) (g0 : zn 6 (S 1 1)) : zf L 97 [.inr (.inr 1), .inl a] S (.inl (some (.inl (K97_4_c2 a 1 1 S))), S, 0) := zf_of (en_97 _ _) (zr_0 i97_0 kc_1 (zr_3_2 i97_1 (zr_0 i97_2 kc_1 (zr_3_3 i97_3 (zt_trans (L97_4 a 1 1 S (by decide) (g0)) (zr_1_2 i97_34 (zr_25 i97_35)))))))
set_option maxRecDepth 100000 in
theorem s96_4 {L : Nat} (x1 x2 : Int32) (S : zS) (g0 : (¬ ((S 1 1) < x2)) → zx 7 x2) (g1 : zn 6 (S 1 1)) : zt L 96 4 [some (.inr (.inr 1)), some (.inl x1), some (.inl x2)] [] S (if ((S 1 1) < x2) then (.inl (29, [some (.inr (.inr 1)), some (.inl x1), some (.inl x2)], [], S)) else (.inl (4, [some (.inr (.inr 1)), some (.inl (if ((S 15 x2.toNatClampNeg) = (-1)) then (x1 : Int32) else (zrem (x1 + ((S 15 x2.toNatClampNeg) * (K97_4_c2 x2 1 1 S))) 257))), some (.inl (x2 + 1))], [], S))) := zr_1_2 i96_4 (zr_2_0 i96_5 (zr_6 i96_6 fl_1_1 rfl (zr_19_4 i96_7 (fun h865 => zt_rfl) (fun h866 => zr_2_0 i96_8 (zr_6r i96_9 fl_1_4 (zr_1_2 i96_10 (zr_8 i96_11 ar_15 (g0 h866) rfl rfl (zr_0 i96_12 kc_m1 (zt_trans (zt_cast (zr_19_0 i96_13 (fun h867 => zt_rfl) (fun h868 => zr_1_1 i96_14 (zr_2_0 i96_15 (zr_6r i96_16 fl_1_4 (zr_1_2 i96_17 (zr_8 i96_18 ar_15 (g0 h866) rfl rfl (zr_2_0 i96_19 (zr_1_2 i96_20 (zr_cv (zs_21_1 i96_21 na_97 ob_1 rfl) (f97 x2 S (g1)) (zr_13_2 i96_22 (zr_13_0 i96_23 (zr_0 i96_24 kc_257 (zr_13_4 i96_25 nz_257 (zr_3_1 i96_26 (zt_rfl))))))))))))))) (zm_c (zl_c zz_s (zl_c (zl_v zz_e) zz_s)) zz_s zz_s)) (zr_5_2 i96_27 kc_1 (zr_17 i96_28 (zt_rfl))))))))))))
def k96_4 (S : zS) (j : Nat) (a : Int32) : Int32 := (if ((S 15 j) = (-1)) then (a : Int32) else (zrem (a + ((S 15 j) * (K97_4_c2 (Int32.ofNat j) 1 1 S))) 257))
set_option maxRecDepth 100000 in
theorem l96_4 {L : Nat} (S : zS) (i0 n : Nat) (a : Int32) (hn : i0 + n < 2147483648) (hc0 : ∀ j, j < n → ¬ ((S 1 1) < (Int32.ofNat (i0 + j)))) (g0 : ∀ j, j < n → (¬ ((S 1 1) < (Int32.ofNat (i0 + j)))) → zx 7 (Int32.ofNat (i0 + j))) (g1 : ∀ j, j < n → zn 6 (S 1 1)) : zt L 96 4 [some (.inr (.inr 1)), some (.inl a), some (.inl (Int32.ofNat i0))] [] S (.inl (4, [some (.inr (.inr 1)), some (.inl (zfold (k96_4 S) i0 n a)), some (.inl (Int32.ofNat (i0 + n)))], [], S)) := by
  induction n with
  | zero => exact zt_rfl
  | succ n ih =>
    have e1 := zk_ix (i0 + n) (by omega)
    have e2 := zk_add (i0 + n)
    refine zt_trans (ih (by omega) (fun j hj => hc0 j (by omega)) (fun j hj => g0 j (by omega)) (fun j hj => g1 j (by omega))) ?_
    refine zt_cast (s96_4 (zfold (k96_4 S) i0 n a) (Int32.ofNat (i0 + n)) S (by have hg := g0 n (by omega); first | exact hg | (simp only [e1]; exact hg)) (by have hg := g1 n (by omega); first | exact hg | (simp only [e1]; exact hg))) ?_
    rw [if_neg (show ¬ ((S 1 1) < (Int32.ofNat (i0 + n))) from (by have hg := hc0 n (by omega); first | exact hg | (simp only [e1]; exact hg)))]
    simp only [zfold, k96_4, e1, e2, ← Nat.add_assoc]
def K96_4 (x1 : Int32) (i0 : Nat) (S : zS) : Int32 := zfold (k96_4 S) i0 ((S 1 1).toNatClampNeg + 1 - i0) x1
def K96_4_c1 (x1 : Int32) (i0 : Nat) (S : zS) : Int32 := (K96_4 x1 i0 S)
set_option maxRecDepth 100000 in
theorem L96_4 {L : Nat} (x1 : Int32) (i0 : Nat) (S : zS) (hi : i0 ≤ 10000) (h0 : zn 6 (S 1 1)) : zt L 96 4 [some (.inr (.inr 1)), some (.inl x1), some (.inl (Int32.ofNat i0))] [] S (.inl (29, [some (.inr (.inr 1)), some (.inl (K96_4_c1 x1 i0 S)), some (.inl (Int32.ofNat (i0 + ((S 1 1).toNatClampNeg + 1 - i0))))], [], S)) := by
  have hend : (S 1 1) < Int32.ofNat (i0 + ((S 1 1).toNatClampNeg + 1 - i0)) := by exact zc_lt_end h0 (by omega) (by omega)
  refine zt_trans (l96_4   S i0 ((S 1 1).toNatClampNeg + 1 - i0) x1 (by have := zn_cl h0; omega) (fun j hj => by exact zc_lt h0 hj (by omega)) (fun j hj _ => by exact zx_of (by have := zn_cl h0; omega) (by have := zn_cl h0; omega)) (fun j hj  => by exact h0)) ?_
  exact zt_cast (s96_4 (zfold (k96_4 S) i0 ((S 1 1).toNatClampNeg + 1 - i0) x1) (Int32.ofNat (i0 + ((S 1 1).toNatClampNeg + 1 - i0))) S (fun h9 => absurd hend h9) (by exact h0)) (if_pos hend)
set_option maxRecDepth 100000 in
theorem f96 {L : Nat} (S : zS) (g0 : zn 6 (S 1 1)) : zf L 96 [.inr (.inr 1)] S (.inl (some (.inl (K96_4_c1 0 1 S))), S, 0) := zf_of (en_96 _) (zr_0 i96_0 kc_0 (zr_3_1 i96_1 (zr_0 i96_2 kc_1 (zr_3_2 i96_3 (zt_trans (L96_4 0 1 S (by decide) (g0)) (zr_1_1 i96_29 (zr_25 i96_30)))))))
set_option maxRecDepth 100000 in
theorem s95_2 {L : Nat} (x1 : Int32) (S : zS) (g0 : (¬ (7 ≤ x1)) → zx 7 x1) : zt L 95 2 [some (.inr (.inr 1)), some (.inl x1)] [] S (if (7 ≤ x1) then (.inl (14, [some (.inr (.inr 1)), some (.inl x1)], [], S)) else (.inl (2, [some (.inr (.inr 1)), some (.inl (x1 + 1))], [], (z_up S 15 x1.toNatClampNeg (-1))))) := zr_1_1 i95_2 (zr_2_0 i95_3 (zr_6r i95_4 fl_1_4 (zr_12 i95_5 ar_15 kn_7 (zr_19_3 i95_6 (fun h873 => zt_rfl) (fun h874 => zr_2_0 i95_7 (zr_6r i95_8 fl_1_4 (zr_1_1 i95_9 (zr_0 i95_10 kc_m1 (zr_10 i95_11 ar_15 (g0 h874) rfl (zr_5_1 i95_12 kc_1 (zr_17 i95_13 (zt_rfl))))))))))))
def k95_2 (j : Nat) (a : zS) : zS := (z_up a 15 j (-1))
set_option maxRecDepth 100000 in
theorem l95_2 {L : Nat} (i0 n : Nat) (a : zS) (hn : i0 + n < 2147483648) (hc0 : ∀ j, j < n → ¬ (7 ≤ (Int32.ofNat (i0 + j)))) (g0 : ∀ j, j < n → (¬ (7 ≤ (Int32.ofNat (i0 + j)))) → zx 7 (Int32.ofNat (i0 + j))) : zt L 95 2 [some (.inr (.inr 1)), some (.inl (Int32.ofNat i0))] [] a (.inl (2, [some (.inr (.inr 1)), some (.inl (Int32.ofNat (i0 + n)))], [], (zfold (k95_2 ) i0 n a))) := by
  induction n with
  | zero => exact zt_rfl
  | succ n ih =>
    have e1 := zk_ix (i0 + n) (by omega)
    have e2 := zk_add (i0 + n)
    refine zt_trans (ih (by omega) (fun j hj => hc0 j (by omega)) (fun j hj => g0 j (by omega))) ?_
    refine zt_cast (s95_2 (Int32.ofNat (i0 + n)) (zfold (k95_2 ) i0 n a) (by have hg := g0 n (by omega); first | exact hg | (simp only [e1]; exact hg))) ?_
    rw [if_neg (show ¬ (7 ≤ (Int32.ofNat (i0 + n))) from (by have hg := hc0 n (by omega); first | exact hg | (simp only [e1]; exact hg)))]
    simp only [zfold, k95_2, e1, e2, ← Nat.add_assoc]
def K95_2 (i0 : Nat) (S : zS) : zS := zfold (k95_2 ) i0 (7 - i0) S
def K95_2_S (i0 : Nat) (S : zS) : zS := (K95_2  i0 S)
set_option maxRecDepth 100000 in
theorem L95_2 {L : Nat} (i0 : Nat) (S : zS) (hi : i0 ≤ 10000) : zt L 95 2 [some (.inr (.inr 1)), some (.inl (Int32.ofNat i0))] [] S (.inl (14, [some (.inr (.inr 1)), some (.inl (Int32.ofNat (i0 + (7 - i0))))], [], (K95_2_S  i0 S))) := by
  have hend : 7 ≤ Int32.ofNat (i0 + (7 - i0)) := by exact zc_le_end (show zn 7 7 from by unfold zn; decide) (by omega)
  refine zt_trans (l95_2    i0 (7 - i0) S (by omega) (fun j hj => by exact zc_le (show zn 7 7 from by unfold zn; decide) hj (by omega)) (fun j hj _ => by exact zx_of (by omega) (by omega))) ?_
  exact zt_cast (s95_2 (Int32.ofNat (i0 + (7 - i0))) (zfold (k95_2 ) i0 (7 - i0) S) (fun h9 => absurd hend h9)) (if_pos hend)
set_option maxRecDepth 100000 in
theorem f95 {L : Nat} (S : zS) : zf L 95 [.inr (.inr 1)] S (.inl none, (z_up (K95_2_S 0 S) 1 5 0), 0) := zf_of (en_95 _) (zr_0 i95_0 kc_0 (zr_3_1 i95_1 (zt_trans (L95_2  0 S (by decide) ) (zr_2_0 i95_14 (zr_0 i95_15 kc_0 (zr_7 i95_16 fl_1_5 (zr_27 i95_17)))))))
def F88 (a b : Int32) (S : zS) : Int32 := (if ((S 1 2) ≤ ((if ((S 15 a.toNatClampNeg) = (-1)) then (z_up S 1 5 ((S 1 5) + 1)) else S) 1 5)) then (0 : Int32) else ((if ((S 15 a.toNatClampNeg) = (-1)) then (z_up S 1 5 ((S 1 5) + 1)) else S) 1 5))
def G88 (a b : Int32) (S : zS) : zS := (if ((S 1 2) ≤ ((if ((S 15 a.toNatClampNeg) = (-1)) then (z_up S 1 5 ((S 1 5) + 1)) else S) 1 5)) then (z_up (K95_2_S 0 (z_up (z_up (if ((S 15 a.toNatClampNeg) = (-1)) then (z_up S 1 5 ((S 1 5) + 1)) else S) 15 a.toNatClampNeg b) 1 6 (zb ((K96_4_c1 0 1 (z_up (if ((S 15 a.toNatClampNeg) = (-1)) then (z_up S 1 5 ((S 1 5) + 1)) else S) 15 a.toNatClampNeg b)) = (S 1 0))))) 1 5 0) else (z_up (if ((S 15 a.toNatClampNeg) = (-1)) then (z_up S 1 5 ((S 1 5) + 1)) else S) 15 a.toNatClampNeg b))
set_option maxRecDepth 100000 in
theorem f88 {L : Nat} (a b : Int32) (S : zS) (g0 : zx 7 a) (g1 : zn 6 (S 1 1)) : zf L 88 [.inr (.inr 1), .inl a, .inl b] S (.inl (some (.inl (F88 a b S))), (G88 a b S), 0) := zf_of (en_88 _ _ _) (zr_2_0 i88_0 (zr_1_1 i88_1 (zr_1_2 i88_2 (zr_cv (zs_21_2 i88_3 na_94 ob_1 rfl) (f94 a b S (g0)) (zr_2_0 i88_4 (zr_6 i88_5 fl_1_2 ((zupci rfl).trans (zite_rd (zupf rfl) rfl)) (zt_cast (zr_19_3 i88_6 (fun h875 => zr_2_0 i88_10 (zr_2_0 i88_11 (zr_cv (zs_21_0 i88_12 na_96 ob_1 rfl) (f96  (z_up (if ((S 15 a.toNatClampNeg) = (-1)) then (z_up S 1 5 ((S 1 5) + 1)) else S) 15 a.toNatClampNeg b) (znv ((zupci rfl).trans (zite_rd (zupf rfl) rfl)) (g1))) (zr_2_0 i88_13 (zr_6 i88_14 fl_1_0 ((zupci rfl).trans (zite_rd (zupf rfl) rfl)) (zt_trans (zt_cast (zr_19_1 i88_15 (fun h877 => zr_0 i88_16 kc_1 (zr_17 i88_17 (zt_rfl))) (fun h878 => zr_0 i88_18 kc_0 (zt_rfl))) (zm_c zz_s (zl_c (zl_t zz_10) zz_s) zz_s)) (zr_33 i88_19 fl_1_6 (zb_01 _) (zr_2_0 i88_20 (zr_cn (zs_21_0 i88_21 na_95 ob_1 rfl) (f95  (z_up (z_up (if ((S 15 a.toNatClampNeg) = (-1)) then (z_up S 1 5 ((S 1 5) + 1)) else S) 15 a.toNatClampNeg b) 1 6 (zb ((K96_4_c1 0 1 (z_up (if ((S 15 a.toNatClampNeg) = (-1)) then (z_up S 1 5 ((S 1 5) + 1)) else S) 15 a.toNatClampNeg b)) = (S 1 0)))) ) (zr_0 i88_22 kc_0 (zr_25 i88_23))))))))))) (fun h876 => zr_2_0 i88_7 (zr_6 i88_8 fl_1_5 (zupci rfl) (zr_25 i88_9)))) (zm_r zz_e zz_e))))))))
set_option maxRecDepth 100000 in
theorem f91 {L : Nat} (S : zS) (g0 : zo (S 1 6)) : zf L 91 [.inr (.inr 1)] S (.inl (some (.inl (S 1 6))), (z_up (K95_2_S 0 (z_up (z_up S 1 6 0) 1 7 0)) 1 5 0), 0) := zf_of (en_91 _) (zr_2_0 i91_0 (zr_6 i91_1 fl_1_6 rfl (zr_3_1 i91_2 (zr_2_0 i91_3 (zr_0 i91_4 kc_0 (zr_33 i91_5 fl_1_6 (zo_0) (zr_2_0 i91_6 (zr_0 i91_7 kc_0 (zr_33 i91_8 fl_1_7 (zo_0) (zr_2_0 i91_9 (zr_cn (zs_21_0 i91_10 na_95 ob_1 rfl) (f95  (z_up (z_up S 1 6 0) 1 7 0) ) (zr_1_1 i91_11 (zr_26 i91_12 (g0))))))))))))))
def F101 (S : zS) : Int32 := (if ((S 77 0) = 0) then ((if ((S 77 1) = 0) then ((if ((S 77 2) = 0) then ((((0 ||| (S 77 0)) ||| (S 77 1)) ||| (S 77 2)) : Int32) else (if ((S 78 2) = 0) then (0 : Int32) else (((0 ||| (S 77 0)) ||| (S 77 1)) ||| (S 77 2)))) : Int32) else (if ((S 78 1) = 0) then (0 : Int32) else (if ((S 77 2) = 0) then ((((0 ||| (S 77 0)) ||| (S 77 1)) ||| (S 77 2)) : Int32) else (if ((S 78 2) = 0) then (0 : Int32) else (((0 ||| (S 77 0)) ||| (S 77 1)) ||| (S 77 2)))))) : Int32) else (if ((S 78 0) = 0) then (0 : Int32) else (if ((S 77 1) = 0) then ((if ((S 77 2) = 0) then ((((0 ||| (S 77 0)) ||| (S 77 1)) ||| (S 77 2)) : Int32) else (if ((S 78 2) = 0) then (0 : Int32) else (((0 ||| (S 77 0)) ||| (S 77 1)) ||| (S 77 2)))) : Int32) else (if ((S 78 1) = 0) then (0 : Int32) else (if ((S 77 2) = 0) then ((((0 ||| (S 77 0)) ||| (S 77 1)) ||| (S 77 2)) : Int32) else (if ((S 78 2) = 0) then (0 : Int32) else (((0 ||| (S 77 0)) ||| (S 77 1)) ||| (S 77 2))))))))
set_option maxRecDepth 100000 in
theorem f101 {L : Nat} (S : zS) (g0 : zo (((0 ||| (S 77 0)) ||| (S 77 1)) ||| (S 77 2))) : zf L 101 [.inr (.inr 12)] S (.inl (some (.inl (F101 S))), S, 0) := zf_of (en_101 _) (zr_0 i101_0 kc_0 (zr_3_1 i101_1 (zr_0 i101_2 kc_0 (zr_3_2 i101_3 (zr_1_2 i101_4 (zr_0 i101_5 kc_3 (zr_19f_3 i101_6 (by decide) (zr_2_0 i101_7 (zr_6r i101_8 fl_12_0 (zr_1_2 i101_9 (zr_9 i101_10 ar_77 (zx_3_0) kt_0 rfl (zt_cast (zr_18_0 i101_11 (fun h879 => zr_1_1 i101_19 (zr_2_0 i101_20 (zr_6r i101_21 fl_12_0 (zr_1_2 i101_22 (zr_9 i101_23 ar_77 (zx_3_0) kt_0 rfl (zr_13_6 i101_24 (zr_3_1 i101_25 (zr_5c_2 i101_26 kc_1 ka_0_1 (zr_17 i101_27 (zr_1_2 i101_4 (zr_0 i101_5 kc_3 (zr_19f_3 i101_6 (by decide) (zr_2_0 i101_7 (zr_6r i101_8 fl_12_0 (zr_1_2 i101_9 (zr_9 i101_10 ar_77 (zx_3_1) kt_1 rfl (zt_cast (zr_18_0 i101_11 (fun h881 => zr_1_1 i101_19 (zr_2_0 i101_20 (zr_6r i101_21 fl_12_0 (zr_1_2 i101_22 (zr_9 i101_23 ar_77 (zx_3_1) kt_1 rfl (zr_13_6 i101_24 (zr_3_1 i101_25 (zr_5c_2 i101_26 kc_1 ka_1_1 (zr_17 i101_27 (zr_1_2 i101_4 (zr_0 i101_5 kc_3 (zr_19f_3 i101_6 (by decide) (zr_2_0 i101_7 (zr_6r i101_8 fl_12_0 (zr_1_2 i101_9 (zr_9 i101_10 ar_77 (zx_3_2) kt_2 rfl (zt_cast (zr_18_0 i101_11 (fun h883 => zr_1_1 i101_19 (zr_2_0 i101_20 (zr_6r i101_21 fl_12_0 (zr_1_2 i101_22 (zr_9 i101_23 ar_77 (zx_3_2) kt_2 rfl (zr_13_6 i101_24 (zr_3_1 i101_25 (zr_5c_2 i101_26 kc_1 ka_2_1 (zr_17 i101_27 (zr_1_2 i101_4 (zr_0 i101_5 kc_3 (zr_19t_3 i101_6 (by decide) (zr_1_1 i101_28 (zr_26 i101_29 (g0))))))))))))))) (fun h884 => zr_2_0 i101_12 (zr_6r i101_13 fl_12_1 (zr_1_2 i101_14 (zr_9 i101_15 ar_78 (zx_3_2) kt_2 rfl (zt_cast (zr_18_1 i101_16 (fun h885 => zr_0 i101_17 kc_0 (zr_26 i101_18 (zo_0))) (fun h886 => zr_1_1 i101_19 (zr_2_0 i101_20 (zr_6r i101_21 fl_12_0 (zr_1_2 i101_22 (zr_9 i101_23 ar_77 (zx_3_2) kt_2 rfl (zr_13_6 i101_24 (zr_3_1 i101_25 (zr_5c_2 i101_26 kc_1 ka_2_1 (zr_17 i101_27 (zr_1_2 i101_4 (zr_0 i101_5 kc_3 (zr_19t_3 i101_6 (by decide) (zr_1_1 i101_28 (zr_26 i101_29 (g0)))))))))))))))) (zm_r zz_e zz_s))))))) (zm_r zz_e zz_s)))))))))))))))))) (fun h882 => zr_2_0 i101_12 (zr_6r i101_13 fl_12_1 (zr_1_2 i101_14 (zr_9 i101_15 ar_78 (zx_3_1) kt_1 rfl (zt_cast (zr_18_1 i101_16 (fun h887 => zr_0 i101_17 kc_0 (zr_26 i101_18 (zo_0))) (fun h888 => zr_1_1 i101_19 (zr_2_0 i101_20 (zr_6r i101_21 fl_12_0 (zr_1_2 i101_22 (zr_9 i101_23 ar_77 (zx_3_1) kt_1 rfl (zr_13_6 i101_24 (zr_3_1 i101_25 (zr_5c_2 i101_26 kc_1 ka_1_1 (zr_17 i101_27 (zr_1_2 i101_4 (zr_0 i101_5 kc_3 (zr_19f_3 i101_6 (by decide) (zr_2_0 i101_7 (zr_6r i101_8 fl_12_0 (zr_1_2 i101_9 (zr_9 i101_10 ar_77 (zx_3_2) kt_2 rfl (zt_cast (zr_18_0 i101_11 (fun h889 => zr_1_1 i101_19 (zr_2_0 i101_20 (zr_6r i101_21 fl_12_0 (zr_1_2 i101_22 (zr_9 i101_23 ar_77 (zx_3_2) kt_2 rfl (zr_13_6 i101_24 (zr_3_1 i101_25 (zr_5c_2 i101_26 kc_1 ka_2_1 (zr_17 i101_27 (zr_1_2 i101_4 (zr_0 i101_5 kc_3 (zr_19t_3 i101_6 (by decide) (zr_1_1 i101_28 (zr_26 i101_29 (g0))))))))))))))) (fun h890 => zr_2_0 i101_12 (zr_6r i101_13 fl_12_1 (zr_1_2 i101_14 (zr_9 i101_15 ar_78 (zx_3_2) kt_2 rfl (zt_cast (zr_18_1 i101_16 (fun h891 => zr_0 i101_17 kc_0 (zr_26 i101_18 (zo_0))) (fun h892 => zr_1_1 i101_19 (zr_2_0 i101_20 (zr_6r i101_21 fl_12_0 (zr_1_2 i101_22 (zr_9 i101_23 ar_77 (zx_3_2) kt_2 rfl (zr_13_6 i101_24 (zr_3_1 i101_25 (zr_5c_2 i101_26 kc_1 ka_2_1 (zr_17 i101_27 (zr_1_2 i101_4 (zr_0 i101_5 kc_3 (zr_19t_3 i101_6 (by decide) (zr_1_1 i101_28 (zr_26 i101_29 (g0)))))))))))))))) (zm_r zz_e zz_s))))))) (zm_r zz_e zz_s))))))))))))))))))) (zm_r zz_e zz_s))))))) (zm_r zz_e zz_s)))))))))))))))))) (fun h880 => zr_2_0 i101_12 (zr_6r i101_13 fl_12_1 (zr_1_2 i101_14 (zr_9 i101_15 ar_78 (zx_3_0) kt_0 rfl (zt_cast (zr_18_1 i101_16 (fun h893 => zr_0 i101_17 kc_0 (zr_26 i101_18 (zo_0))) (fun h894 => zr_1_1 i101_19 (zr_2_0 i101_20 (zr_6r i101_21 fl_12_0 (zr_1_2 i101_22 (zr_9 i101_23 ar_77 (zx_3_0) kt_0 rfl (zr_13_6 i101_24 (zr_3_1 i101_25 (zr_5c_2 i101_26 kc_1 ka_0_1 (zr_17 i101_27 (zr_1_2 i101_4 (zr_0 i101_5 kc_3 (zr_19f_3 i101_6 (by decide) (zr_2_0 i101_7 (zr_6r i101_8 fl_12_0 (zr_1_2 i101_9 (zr_9 i101_10 ar_77 (zx_3_1) kt_1 rfl (zt_cast (zr_18_0 i101_11 (fun h895 => zr_1_1 i101_19 (zr_2_0 i101_20 (zr_6r i101_21 fl_12_0 (zr_1_2 i101_22 (zr_9 i101_23 ar_77 (zx_3_1) kt_1 rfl (zr_13_6 i101_24 (zr_3_1 i101_25 (zr_5c_2 i101_26 kc_1 ka_1_1 (zr_17 i101_27 (zr_1_2 i101_4 (zr_0 i101_5 kc_3 (zr_19f_3 i101_6 (by decide) (zr_2_0 i101_7 (zr_6r i101_8 fl_12_0 (zr_1_2 i101_9 (zr_9 i101_10 ar_77 (zx_3_2) kt_2 rfl (zt_cast (zr_18_0 i101_11 (fun h897 => zr_1_1 i101_19 (zr_2_0 i101_20 (zr_6r i101_21 fl_12_0 (zr_1_2 i101_22 (zr_9 i101_23 ar_77 (zx_3_2) kt_2 rfl (zr_13_6 i101_24 (zr_3_1 i101_25 (zr_5c_2 i101_26 kc_1 ka_2_1 (zr_17 i101_27 (zr_1_2 i101_4 (zr_0 i101_5 kc_3 (zr_19t_3 i101_6 (by decide) (zr_1_1 i101_28 (zr_26 i101_29 (g0))))))))))))))) (fun h898 => zr_2_0 i101_12 (zr_6r i101_13 fl_12_1 (zr_1_2 i101_14 (zr_9 i101_15 ar_78 (zx_3_2) kt_2 rfl (zt_cast (zr_18_1 i101_16 (fun h899 => zr_0 i101_17 kc_0 (zr_26 i101_18 (zo_0))) (fun h900 => zr_1_1 i101_19 (zr_2_0 i101_20 (zr_6r i101_21 fl_12_0 (zr_1_2 i101_22 (zr_9 i101_23 ar_77 (zx_3_2) kt_2 rfl (zr_13_6 i101_24 (zr_3_1 i101_25 (zr_5c_2 i101_26 kc_1 ka_2_1 (zr_17 i101_27 (zr_1_2 i101_4 (zr_0 i101_5 kc_3 (zr_19t_3 i101_6 (by decide) (zr_1_1 i101_28 (zr_26 i101_29 (g0)))))))))))))))) (zm_r zz_e zz_s))))))) (zm_r zz_e zz_s)))))))))))))))))) (fun h896 => zr_2_0 i101_12 (zr_6r i101_13 fl_12_1 (zr_1_2 i101_14 (zr_9 i101_15 ar_78 (zx_3_1) kt_1 rfl (zt_cast (zr_18_1 i101_16 (fun h901 => zr_0 i101_17 kc_0 (zr_26 i101_18 (zo_0))) (fun h902 => zr_1_1 i101_19 (zr_2_0 i101_20 (zr_6r i101_21 fl_12_0 (zr_1_2 i101_22 (zr_9 i101_23 ar_77 (zx_3_1) kt_1 rfl (zr_13_6 i101_24 (zr_3_1 i101_25 (zr_5c_2 i101_26 kc_1 ka_1_1 (zr_17 i101_27 (zr_1_2 i101_4 (zr_0 i101_5 kc_3 (zr_19f_3 i101_6 (by decide) (zr_2_0 i101_7 (zr_6r i101_8 fl_12_0 (zr_1_2 i101_9 (zr_9 i101_10 ar_77 (zx_3_2) kt_2 rfl (zt_cast (zr_18_0 i101_11 (fun h903 => zr_1_1 i101_19 (zr_2_0 i101_20 (zr_6r i101_21 fl_12_0 (zr_1_2 i101_22 (zr_9 i101_23 ar_77 (zx_3_2) kt_2 rfl (zr_13_6 i101_24 (zr_3_1 i101_25 (zr_5c_2 i101_26 kc_1 ka_2_1 (zr_17 i101_27 (zr_1_2 i101_4 (zr_0 i101_5 kc_3 (zr_19t_3 i101_6 (by decide) (zr_1_1 i101_28 (zr_26 i101_29 (g0))))))))))))))) (fun h904 => zr_2_0 i101_12 (zr_6r i101_13 fl_12_1 (zr_1_2 i101_14 (zr_9 i101_15 ar_78 (zx_3_2) kt_2 rfl (zt_cast (zr_18_1 i101_16 (fun h905 => zr_0 i101_17 kc_0 (zr_26 i101_18 (zo_0))) (fun h906 => zr_1_1 i101_19 (zr_2_0 i101_20 (zr_6r i101_21 fl_12_0 (zr_1_2 i101_22 (zr_9 i101_23 ar_77 (zx_3_2) kt_2 rfl (zr_13_6 i101_24 (zr_3_1 i101_25 (zr_5c_2 i101_26 kc_1 ka_2_1 (zr_17 i101_27 (zr_1_2 i101_4 (zr_0 i101_5 kc_3 (zr_19t_3 i101_6 (by decide) (zr_1_1 i101_28 (zr_26 i101_29 (g0)))))))))))))))) (zm_r zz_e zz_s))))))) (zm_r zz_e zz_s))))))))))))))))))) (zm_r zz_e zz_s))))))) (zm_r zz_e zz_s))))))))))))))))))) (zm_r zz_e zz_s))))))) (zm_r zz_e zz_s)))))))))))))
set_option maxRecDepth 100000 in
theorem s102_21 {L : Nat} (x1 x2 x3 x4 x5 x6 x7 : Int32) (S : zS) (g0 : (¬ (3 ≤ x7)) → zx 3 x7) : zt L 102 21 [some (.inr (.inr 12)), some (.inl x1), some (.inl x2), some (.inl x3), some (.inl x4), some (.inl x5), some (.inl x6), some (.inl x7)] [] S (if (3 ≤ x7) then (.inl (57, [some (.inr (.inr 12)), some (.inl x1), some (.inl x2), some (.inl x3), some (.inl x4), some (.inl x5), some (.inl x6), some (.inl x7)], [], S)) else (.inl (21, [some (.inr (.inr 12)), some (.inl x1), some (.inl x2), some (.inl x3), some (.inl x4), some (.inl x5), some (.inl x6), some (.inl (x7 + 1))], [], (if ((S 77 x7.toNatClampNeg) = 0) then S else (if ((S 78 x7.toNatClampNeg) = 0) then (z_up S 80 x7.toNatClampNeg (zrem (((31 * (S 80 x7.toNatClampNeg)) + x6) + (x5 * (S 79 x7.toNatClampNeg))) 65521)) else S))))) := zr_1_7 i102_21 (zr_0 i102_22 kc_3 (zr_19_3 i102_23 (fun h923 => zt_rfl) (fun h924 => zr_2_0 i102_24 (zr_6r i102_25 fl_12_0 (zr_1_7 i102_26 (zr_9 i102_27 ar_77 (g0 h924) rfl rfl (zt_trans (zt_cast (zr_18_0 i102_28 (fun h925 => zt_rfl) (fun h926 => zr_2_0 i102_29 (zr_6r i102_30 fl_12_1 (zr_1_7 i102_31 (zr_9 i102_32 ar_78 (g0 h924) rfl rfl (zt_cast (zr_18_1 i102_33 (fun h927 => zr_2_0 i102_34 (zr_6r i102_35 fl_12_3 (zr_1_7 i102_36 (zr_0 i102_37 kc_31 (zr_2_0 i102_38 (zr_6r i102_39 fl_12_3 (zr_1_7 i102_40 (zr_8 i102_41 ar_80 (g0 h924) rfl rfl (zr_13_2 i102_42 (zr_1_6 i102_43 (zr_13_0 i102_44 (zr_1_5 i102_45 (zr_2_0 i102_46 (zr_6r i102_47 fl_12_2 (zr_1_7 i102_48 (zr_8 i102_49 ar_79 (g0 h924) rfl rfl (zr_13_2 i102_50 (zr_13_0 i102_51 (zr_0 i102_52 kc_65521 (zr_13_4 i102_53 nz_65521 (zr_10 i102_54 ar_80 (g0 h924) rfl (zt_rfl)))))))))))))))))))))) (fun h928 => zt_rfl)) (zm_c zz_s zz_s zz_e))))))) (zm_c zz_s zz_s zz_e)) (zr_5_7 i102_55 kc_1 (zr_17 i102_56 (zt_rfl))))))))))
def k102_21 (x1 x2 x3 x4 x5 x6 : Int32) (j : Nat) (a : zS) : zS := (if ((a 77 j) = 0) then a else (if ((a 78 j) = 0) then (z_up a 80 j (zrem (((31 * (a 80 j)) + x6) + (x5 * (a 79 j))) 65521)) else a))
set_option maxRecDepth 100000 in
theorem l102_21 {L : Nat} (x1 x2 x3 x4 x5 x6 : Int32) (i0 n : Nat) (a : zS) (hn : i0 + n < 2147483648) (hc0 : ∀ j, j < n → ¬ (3 ≤ (Int32.ofNat (i0 + j)))) (g0 : ∀ j, j < n → (¬ (3 ≤ (Int32.ofNat (i0 + j)))) → zx 3 (Int32.ofNat (i0 + j))) : zt L 102 21 [some (.inr (.inr 12)), some (.inl x1), some (.inl x2), some (.inl x3), some (.inl x4), some (.inl x5), some (.inl x6), some (.inl (Int32.ofNat i0))] [] a (.inl (21, [some (.inr (.inr 12)), some (.inl x1), some (.inl x2), some (.inl x3), some (.inl x4), some (.inl x5), some (.inl x6), some (.inl (Int32.ofNat (i0 + n)))], [], (zfold (k102_21 x1 x2 x3 x4 x5 x6 ) i0 n a))) := by
  induction n with
  | zero => exact zt_rfl
  | succ n ih =>
    have e1 := zk_ix (i0 + n) (by omega)
    have e2 := zk_add (i0 + n)
    refine zt_trans (ih (by omega) (fun j hj => hc0 j (by omega)) (fun j hj => g0 j (by omega))) ?_
    refine zt_cast (s102_21 x1 x2 x3 x4 x5 x6 (Int32.ofNat (i0 + n)) (zfold (k102_21 x1 x2 x3 x4 x5 x6 ) i0 n a) (by have hg := g0 n (by omega); first | exact hg | (simp only [e1]; exact hg))) ?_
    rw [if_neg (show ¬ (3 ≤ (Int32.ofNat (i0 + n))) from (by have hg := hc0 n (by omega); first | exact hg | (simp only [e1]; exact hg)))]
    simp only [zfold, k102_21, e1, e2, ← Nat.add_assoc]
def K102_21 (x1 x2 x3 x4 x5 x6 : Int32) (i0 : Nat) (S : zS) : zS := zfold (k102_21 x1 x2 x3 x4 x5 x6 ) i0 (3 - i0) S
def K102_21_S (x1 x2 x3 x4 x5 x6 : Int32) (i0 : Nat) (S : zS) : zS := (K102_21 x1 x2 x3 x4 x5 x6 i0 S)
set_option maxRecDepth 100000 in
theorem L102_21 {L : Nat} (x1 x2 x3 x4 x5 x6 : Int32) (i0 : Nat) (S : zS) (hi : i0 ≤ 10000) : zt L 102 21 [some (.inr (.inr 12)), some (.inl x1), some (.inl x2), some (.inl x3), some (.inl x4), some (.inl x5), some (.inl x6), some (.inl (Int32.ofNat i0))] [] S (.inl (57, [some (.inr (.inr 12)), some (.inl x1), some (.inl x2), some (.inl x3), some (.inl x4), some (.inl x5), some (.inl x6), some (.inl (Int32.ofNat (i0 + (3 - i0))))], [], (K102_21_S x1 x2 x3 x4 x5 x6 i0 S))) := by
  have hend : 3 ≤ Int32.ofNat (i0 + (3 - i0)) := by exact zc_le_end (show zn 3 3 from by unfold zn; decide) (by omega)
  refine zt_trans (l102_21 x1 x2 x3 x4 x5 x6   i0 (3 - i0) S (by omega) (fun j hj => by exact zc_le (show zn 3 3 from by unfold zn; decide) hj (by omega)) (fun j hj _ => by exact zx_of (by omega) (by omega))) ?_
  exact zt_cast (s102_21 x1 x2 x3 x4 x5 x6 (Int32.ofNat (i0 + (3 - i0))) (zfold (k102_21 x1 x2 x3 x4 x5 x6 ) i0 (3 - i0) S) (fun h9 => absurd hend h9)) (if_pos hend)
def G102 (a b c d : Int32) (S : zS) : zS := (K102_21_S a b c d (if (0 ≤ d) then (d : Int32) else (60000 + d)) (((7 * a) + b) + (1000 * (if (c.toInt = 2) then (1 : Int32) else (if (c.toInt = 4) then (2 : Int32) else (if (c.toInt = 8) then (3 : Int32) else 0))))) 0 S)
set_option maxRecDepth 100000 in
theorem f102 {L : Nat} (a b c d : Int32) (S : zS) : zf L 102 [.inr (.inr 12), .inl a, .inl b, .inl c, .inl d] S (.inl none, (G102 a b c d S), 0) := zf_of (en_102 _ _ _ _ _) (zr_1_4 i102_0 (zt_trans (zt_cast (zr_18_3 i102_1 (fun h929 => zr_1_4 i102_6 (zt_rfl)) (fun h930 => zr_0 i102_2 kc_60000 (zr_1_4 i102_3 (zr_13_0 i102_4 (zr_17 i102_5 (zt_rfl)))))) (zm_c zz_s (zl_c (zl_t zz_e) zz_s) zz_s)) (zr_3_5 i102_7 (zr_0 i102_8 kc_7 (zr_1_1 i102_9 (zr_13_2 i102_10 (zr_1_2 i102_11 (zr_13_0 i102_12 (zr_0 i102_13 kc_1000 (zr_1_3 i102_14 (zr_cv (zs_22_1 i102_15 na_103 rfl) (f103 c S ) (zr_13_2 i102_16 (zr_13_0 i102_17 (zr_3_6 i102_18 (zr_0 i102_19 kc_0 (zr_3_7 i102_20 (zt_trans (L102_21 a b c d (if (0 ≤ d) then (d : Int32) else (60000 + d)) (((7 * a) + b) + (1000 * (if (c.toInt = 2) then (1 : Int32) else (if (c.toInt = 4) then (2 : Int32) else (if (c.toInt = 8) then (3 : Int32) else 0))))) 0 S (by decide) ) (zr_27 i102_57))))))))))))))))))
