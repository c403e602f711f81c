/-! the methods with loops, and what calls them (wip/p57/gen/gen18.py) -/
theorem i55_0 : zi 55 0 1 0 0 0 := by decide +kernel
theorem i55_1 : zi 55 1 2 3 2 0 := by decide +kernel
theorem i55_2 : zi 55 2 3 1 2 0 := by decide +kernel
theorem i55_3 : zi 55 3 4 2 0 0 := by decide +kernel
theorem i55_4 : zi 55 4 5 6 5 0 := by decide +kernel
theorem i55_5 : zi 55 5 6 19 23 3 := by decide +kernel
theorem i55_6 : zi 55 6 7 2 0 0 := by decide +kernel
theorem i55_7 : zi 55 7 8 6 5 6 := by decide +kernel
theorem i55_8 : zi 55 8 9 1 2 0 := by decide +kernel
theorem i55_9 : zi 55 9 10 8 0 0 := by decide +kernel
theorem i55_10 : zi 55 10 11 18 21 1 := by decide +kernel
theorem i55_11 : zi 55 11 12 2 0 0 := by decide +kernel
theorem i55_12 : zi 55 12 13 6 5 4 := by decide +kernel
theorem i55_13 : zi 55 13 14 1 2 0 := by decide +kernel
theorem i55_14 : zi 55 14 15 8 0 0 := by decide +kernel
theorem i55_15 : zi 55 15 16 1 1 0 := by decide +kernel
theorem i55_16 : zi 55 16 17 19 21 1 := by decide +kernel
theorem i55_17 : zi 55 17 18 2 0 0 := by decide +kernel
theorem i55_18 : zi 55 18 19 1 2 0 := by decide +kernel
theorem i55_19 : zi 55 19 20 1 1 0 := by decide +kernel
theorem i55_20 : zi 55 20 21 21 59 5 := by decide +kernel
theorem i55_21 : zi 55 21 22 5 2 1 := by decide +kernel
theorem i55_22 : zi 55 22 23 17 2 0 := by decide +kernel
theorem i55_23 : zi 55 23 24 27 0 0 := by decide +kernel
theorem ml_55 : z_ml 55 = 3 := by decide +kernel
theorem en_55 : ∀ (v0 v1 : zV), z_ent 55 [v0, v1] = [some v0, some v1, none] := fun v0 v1 => by unfold z_ent; rw [ml_55]; rfl
theorem i56_0 : zi 56 0 1 0 0 0 := by decide +kernel
theorem i56_1 : zi 56 1 2 3 2 0 := by decide +kernel
theorem i56_2 : zi 56 2 3 1 2 0 := by decide +kernel
theorem i56_3 : zi 56 3 4 2 0 0 := by decide +kernel
theorem i56_4 : zi 56 4 5 6 5 0 := by decide +kernel
theorem i56_5 : zi 56 5 6 19 23 3 := by decide +kernel
theorem i56_6 : zi 56 6 7 2 0 0 := by decide +kernel
theorem i56_7 : zi 56 7 8 6 5 6 := by decide +kernel
theorem i56_8 : zi 56 8 9 1 2 0 := by decide +kernel
theorem i56_9 : zi 56 9 10 8 0 0 := by decide +kernel
theorem i56_10 : zi 56 10 11 0 0 1 := by decide +kernel
theorem i56_11 : zi 56 11 12 19 21 1 := by decide +kernel
theorem i56_12 : zi 56 12 13 2 0 0 := by decide +kernel
theorem i56_13 : zi 56 13 14 6 5 4 := by decide +kernel
theorem i56_14 : zi 56 14 15 1 2 0 := by decide +kernel
theorem i56_15 : zi 56 15 16 8 0 0 := by decide +kernel
theorem i56_16 : zi 56 16 17 1 1 0 := by decide +kernel
theorem i56_17 : zi 56 17 18 19 21 3 := by decide +kernel
theorem i56_18 : zi 56 18 19 2 0 0 := by decide +kernel
theorem i56_19 : zi 56 19 20 1 2 0 := by decide +kernel
theorem i56_20 : zi 56 20 21 21 60 5 := by decide +kernel
theorem i56_21 : zi 56 21 22 5 2 1 := by decide +kernel
theorem i56_22 : zi 56 22 23 17 2 0 := by decide +kernel
theorem i56_23 : zi 56 23 24 27 0 0 := by decide +kernel
theorem ml_56 : z_ml 56 = 3 := by decide +kernel
theorem en_56 : ∀ (v0 v1 : zV), z_ent 56 [v0, v1] = [some v0, some v1, none] := fun v0 v1 => by unfold z_ent; rw [ml_56]; rfl
theorem i57_0 : zi 57 0 1 0 0 0 := by decide +kernel
theorem i57_1 : zi 57 1 2 3 1 0 := by decide +kernel
theorem i57_2 : zi 57 2 3 1 1 0 := by decide +kernel
theorem i57_3 : zi 57 3 4 0 0 3 := by decide +kernel
theorem i57_4 : zi 57 4 5 19 28 3 := by decide +kernel
theorem i57_5 : zi 57 5 6 2 0 0 := by decide +kernel
theorem i57_6 : zi 57 6 7 6 5 8 := by decide +kernel
theorem i57_7 : zi 57 7 8 1 1 0 := by decide +kernel
theorem i57_8 : zi 57 8 9 8 0 0 := by decide +kernel
theorem i57_9 : zi 57 9 10 18 26 1 := by decide +kernel
theorem i57_10 : zi 57 10 11 2 0 0 := by decide +kernel
theorem i57_11 : zi 57 11 12 6 5 9 := by decide +kernel
theorem i57_12 : zi 57 12 13 1 1 0 := by decide +kernel
theorem i57_13 : zi 57 13 14 15 0 0 := by decide +kernel
theorem i57_14 : zi 57 14 15 8 0 0 := by decide +kernel
theorem i57_15 : zi 57 15 16 2 0 0 := by decide +kernel
theorem i57_16 : zi 57 16 17 6 5 10 := by decide +kernel
theorem i57_17 : zi 57 17 18 1 1 0 := by decide +kernel
theorem i57_18 : zi 57 18 19 8 0 0 := by decide +kernel
theorem i57_19 : zi 57 19 20 13 1 0 := by decide +kernel
theorem i57_20 : zi 57 20 21 10 0 0 := by decide +kernel
theorem i57_21 : zi 57 21 22 2 0 0 := by decide +kernel
theorem i57_22 : zi 57 22 23 6 5 10 := by decide +kernel
theorem i57_23 : zi 57 23 24 1 1 0 := by decide +kernel
theorem i57_24 : zi 57 24 25 0 0 0 := by decide +kernel
theorem i57_25 : zi 57 25 26 10 0 0 := by decide +kernel
theorem i57_26 : zi 57 26 27 5 1 1 := by decide +kernel
theorem i57_27 : zi 57 27 28 17 2 0 := by decide +kernel
theorem i57_28 : zi 57 28 29 27 0 0 := by decide +kernel
theorem ml_57 : z_ml 57 = 2 := by decide +kernel
theorem en_57 : ∀ (v0 : zV), z_ent 57 [v0] = [some v0, none] := fun v0 => by unfold z_ent; rw [ml_57]; rfl
theorem i58_0 : zi 58 0 1 2 0 0 := by decide +kernel
theorem i58_1 : zi 58 1 2 6 5 10 := by decide +kernel
theorem i58_2 : zi 58 2 3 1 1 0 := by decide +kernel
theorem i58_3 : zi 58 3 4 8 0 0 := by decide +kernel
theorem i58_4 : zi 58 4 5 3 2 0 := by decide +kernel
theorem i58_5 : zi 58 5 6 0 0 0 := by decide +kernel
theorem i58_6 : zi 58 6 7 3 3 0 := by decide +kernel
theorem i58_7 : zi 58 7 8 1 3 0 := by decide +kernel
theorem i58_8 : zi 58 8 9 2 0 0 := by decide +kernel
theorem i58_9 : zi 58 9 10 6 5 0 := by decide +kernel
theorem i58_10 : zi 58 10 11 19 26 3 := by decide +kernel
theorem i58_11 : zi 58 11 12 2 0 0 := by decide +kernel
theorem i58_12 : zi 58 12 13 6 5 3 := by decide +kernel
theorem i58_13 : zi 58 13 14 1 3 0 := by decide +kernel
theorem i58_14 : zi 58 14 15 8 0 0 := by decide +kernel
theorem i58_15 : zi 58 15 16 1 1 0 := by decide +kernel
theorem i58_16 : zi 58 16 17 19 24 1 := by decide +kernel
theorem i58_17 : zi 58 17 18 2 0 0 := by decide +kernel
theorem i58_18 : zi 58 18 19 6 5 6 := by decide +kernel
theorem i58_19 : zi 58 19 20 1 3 0 := by decide +kernel
theorem i58_20 : zi 58 20 21 8 0 0 := by decide +kernel
theorem i58_21 : zi 58 21 22 0 0 2 := by decide +kernel
theorem i58_22 : zi 58 22 23 19 24 0 := by decide +kernel
theorem i58_23 : zi 58 23 24 5 2 1 := by decide +kernel
theorem i58_24 : zi 58 24 25 5 3 1 := by decide +kernel
theorem i58_25 : zi 58 25 26 17 7 0 := by decide +kernel
theorem i58_26 : zi 58 26 27 1 2 0 := by decide +kernel
theorem i58_27 : zi 58 27 28 25 0 0 := by decide +kernel
theorem ml_58 : z_ml 58 = 4 := by decide +kernel
theorem en_58 : ∀ (v0 v1 : zV), z_ent 58 [v0, v1] = [some v0, some v1, none, none] := fun v0 v1 => by unfold z_ent; rw [ml_58]; rfl
theorem i79_0 : zi 79 0 1 0 0 0 := by decide +kernel
theorem i79_1 : zi 79 1 2 3 2 0 := by decide +kernel
theorem i79_2 : zi 79 2 3 0 0 0 := by decide +kernel
theorem i79_3 : zi 79 3 4 3 3 0 := by decide +kernel
theorem i79_4 : zi 79 4 5 1 3 0 := by decide +kernel
theorem i79_5 : zi 79 5 6 0 0 4 := by decide +kernel
theorem i79_6 : zi 79 6 7 19 39 3 := by decide +kernel
theorem i79_7 : zi 79 7 8 0 0 0 := by decide +kernel
theorem i79_8 : zi 79 8 9 3 4 0 := by decide +kernel
theorem i79_39 : zi 79 39 40 1 2 0 := by decide +kernel
theorem i79_40 : zi 79 40 41 25 0 0 := by decide +kernel
theorem i79_9 : zi 79 9 10 1 4 0 := by decide +kernel
theorem i79_10 : zi 79 10 11 0 0 4 := by decide +kernel
theorem i79_11 : zi 79 11 12 19 37 3 := by decide +kernel
theorem i79_12 : zi 79 12 13 2 0 0 := by decide +kernel
theorem i79_13 : zi 79 13 14 6 6 8 := by decide +kernel
theorem i79_14 : zi 79 14 15 1 4 0 := by decide +kernel
theorem i79_15 : zi 79 15 16 8 0 0 := by decide +kernel
theorem i79_16 : zi 79 16 17 1 1 0 := by decide +kernel
theorem i79_17 : zi 79 17 18 13 9 0 := by decide +kernel
theorem i79_18 : zi 79 18 19 0 0 1 := by decide +kernel
theorem i79_19 : zi 79 19 20 13 5 0 := by decide +kernel
theorem i79_20 : zi 79 20 21 0 0 1 := by decide +kernel
theorem i79_21 : zi 79 21 22 19 29 0 := by decide +kernel
theorem i79_29 : zi 79 29 30 1 2 0 := by decide +kernel
theorem i79_30 : zi 79 30 31 0 0 1 := by decide +kernel
theorem i79_31 : zi 79 31 32 1 4 0 := by decide +kernel
theorem i79_32 : zi 79 32 33 13 8 0 := by decide +kernel
theorem i79_33 : zi 79 33 34 13 6 0 := by decide +kernel
theorem i79_34 : zi 79 34 35 3 2 0 := by decide +kernel
theorem i79_22 : zi 79 22 23 2 0 0 := by decide +kernel
theorem i79_23 : zi 79 23 24 6 6 9 := by decide +kernel
theorem i79_24 : zi 79 24 25 1 4 0 := by decide +kernel
theorem i79_25 : zi 79 25 26 8 0 0 := by decide +kernel
theorem i79_26 : zi 79 26 27 1 2 0 := by decide +kernel
theorem i79_27 : zi 79 27 28 13 5 0 := by decide +kernel
theorem i79_28 : zi 79 28 29 18 35 0 := by decide +kernel
theorem i79_35 : zi 79 35 36 5 4 1 := by decide +kernel
theorem i79_36 : zi 79 36 37 17 9 0 := by decide +kernel
theorem i79_37 : zi 79 37 38 5 3 1 := by decide +kernel
theorem i79_38 : zi 79 38 39 17 4 0 := by decide +kernel
theorem ml_79 : z_ml 79 = 5 := by decide +kernel
theorem en_79 : ∀ (v0 v1 : zV), z_ent 79 [v0, v1] = [some v0, some v1, none, none, none] := fun v0 v1 => by unfold z_ent; rw [ml_79]; rfl
theorem i78_0 : zi 78 0 1 1 1 0 := by decide +kernel
theorem i78_1 : zi 78 1 2 18 5 2 := by decide +kernel
theorem i78_5 : zi 78 5 6 0 0 0 := by decide +kernel
theorem i78_6 : zi 78 6 7 25 0 0 := by decide +kernel
theorem i78_2 : zi 78 2 3 1 1 0 := by decide +kernel
theorem i78_3 : zi 78 3 4 0 0 8 := by decide +kernel
theorem i78_4 : zi 78 4 5 19 7 2 := by decide +kernel
theorem i78_7 : zi 78 7 8 2 0 0 := by decide +kernel
theorem i78_8 : zi 78 8 9 6 6 6 := by decide +kernel
theorem i78_9 : zi 78 9 10 1 1 0 := by decide +kernel
theorem i78_10 : zi 78 10 11 8 0 0 := by decide +kernel
theorem i78_11 : zi 78 11 12 3 2 0 := by decide +kernel
theorem i78_12 : zi 78 12 13 2 0 0 := by decide +kernel
theorem i78_13 : zi 78 13 14 1 1 0 := by decide +kernel
theorem i78_14 : zi 78 14 15 21 79 6 := by decide +kernel
theorem na_79 : z_na 79 = 1 := by decide +kernel
theorem i78_15 : zi 78 15 16 3 3 0 := by decide +kernel
theorem i78_16 : zi 78 16 17 0 0 0 := by decide +kernel
theorem i78_17 : zi 78 17 18 3 4 0 := by decide +kernel
theorem i78_18 : zi 78 18 19 1 4 0 := by decide +kernel
theorem i78_19 : zi 78 19 20 0 0 4 := by decide +kernel
theorem i78_20 : zi 78 20 21 19 37 3 := by decide +kernel
theorem i78_21 : zi 78 21 22 1 3 0 := by decide +kernel
theorem i78_22 : zi 78 22 23 1 4 0 := by decide +kernel
theorem i78_23 : zi 78 23 24 13 9 0 := by decide +kernel
theorem i78_24 : zi 78 24 25 0 0 1 := by decide +kernel
theorem i78_25 : zi 78 25 26 13 5 0 := by decide +kernel
theorem i78_26 : zi 78 26 27 0 0 1 := by decide +kernel
theorem i78_27 : zi 78 27 28 19 35 1 := by decide +kernel
theorem i78_28 : zi 78 28 29 1 2 0 := by decide +kernel
theorem i78_29 : zi 78 29 30 2 0 0 := by decide +kernel
theorem i78_30 : zi 78 30 31 6 6 7 := by decide +kernel
theorem i78_31 : zi 78 31 32 1 4 0 := by decide +kernel
theorem i78_32 : zi 78 32 33 8 0 0 := by decide +kernel
theorem i78_33 : zi 78 33 34 13 6 0 := by decide +kernel
theorem i78_34 : zi 78 34 35 3 2 0 := by decide +kernel
theorem i78_35 : zi 78 35 36 5 4 1 := by decide +kernel
theorem i78_36 : zi 78 36 37 17 18 0 := by decide +kernel
theorem i78_37 : zi 78 37 38 1 2 0 := by decide +kernel
theorem i78_38 : zi 78 38 39 25 0 0 := by decide +kernel
theorem ml_78 : z_ml 78 = 5 := by decide +kernel
theorem en_78 : ∀ (v0 v1 : zV), z_ent 78 [v0, v1] = [some v0, some v1, none, none, none] := fun v0 v1 => by unfold z_ent; rw [ml_78]; rfl
theorem i66_0 : zi 66 0 1 0 0 0 := by decide +kernel
theorem i66_1 : zi 66 1 2 3 4 0 := by decide +kernel
theorem i66_2 : zi 66 2 3 0 0 0 := by decide +kernel
theorem i66_3 : zi 66 3 4 3 5 0 := by decide +kernel
theorem i66_4 : zi 66 4 5 0 0 0 := by decide +kernel
theorem i66_5 : zi 66 5 6 3 6 0 := by decide +kernel
theorem i66_6 : zi 66 6 7 1 6 0 := by decide +kernel
theorem i66_7 : zi 66 7 8 0 0 3 := by decide +kernel
theorem i66_8 : zi 66 8 9 19 49 3 := by decide +kernel
theorem i66_9 : zi 66 9 10 1 5 0 := by decide +kernel
theorem i66_10 : zi 66 10 11 18 13 0 := by decide +kernel
theorem i66_13 : zi 66 13 14 2 0 0 := by decide +kernel
theorem i66_14 : zi 66 14 15 6 6 1 := by decide +kernel
theorem i66_15 : zi 66 15 16 1 1 0 := by decide +kernel
theorem i66_16 : zi 66 16 17 0 0 3 := by decide +kernel
theorem i66_17 : zi 66 17 18 13 2 0 := by decide +kernel
theorem i66_18 : zi 66 18 19 1 6 0 := by decide +kernel
theorem i66_19 : zi 66 19 20 13 0 0 := by decide +kernel
theorem i66_20 : zi 66 20 21 8 0 0 := by decide +kernel
theorem i66_21 : zi 66 21 22 3 7 0 := by decide +kernel
theorem i66_22 : zi 66 22 23 1 7 0 := by decide +kernel
theorem i66_23 : zi 66 23 24 1 2 0 := by decide +kernel
theorem i66_24 : zi 66 24 25 1 3 0 := by decide +kernel
theorem i66_25 : zi 66 25 26 1 6 0 := by decide +kernel
theorem i66_26 : zi 66 26 27 22 68 0 := by decide +kernel
theorem na_68 : z_na 68 = 2 := by decide +kernel
theorem i66_27 : zi 66 27 28 22 67 0 := by decide +kernel
theorem na_67 : z_na 67 = 3 := by decide +kernel
theorem i66_28 : zi 66 28 29 3 8 0 := by decide +kernel
theorem i66_29 : zi 66 29 30 1 8 0 := by decide +kernel
theorem i66_30 : zi 66 30 31 0 0 4 := by decide +kernel
theorem i66_31 : zi 66 31 32 19 34 1 := by decide +kernel
theorem i66_32 : zi 66 32 33 0 0 64 := by decide +kernel
theorem kc_64 : Int32.ofInt 64 = 64 := by decide +kernel
theorem i66_33 : zi 66 33 34 25 0 0 := by decide +kernel
theorem i66_34 : zi 66 34 35 1 4 0 := by decide +kernel
theorem i66_35 : zi 66 35 36 0 0 4 := by decide +kernel
theorem i66_36 : zi 66 36 37 13 2 0 := by decide +kernel
theorem i66_37 : zi 66 37 38 1 8 0 := by decide +kernel
theorem i66_38 : zi 66 38 39 13 0 0 := by decide +kernel
theorem i66_39 : zi 66 39 40 3 4 0 := by decide +kernel
theorem i66_40 : zi 66 40 41 1 7 0 := by decide +kernel
theorem i66_41 : zi 66 41 42 0 0 8 := by decide +kernel
theorem i66_42 : zi 66 42 43 19 45 1 := by decide +kernel
theorem i66_43 : zi 66 43 44 0 0 1 := by decide +kernel
theorem i66_44 : zi 66 44 45 17 46 0 := by decide +kernel
theorem i66_45 : zi 66 45 46 0 0 0 := by decide +kernel
theorem i66_46 : zi 66 46 47 3 5 0 := by decide +kernel
theorem i66_47 : zi 66 47 48 5 6 1 := by decide +kernel
theorem ka_0_1 : (0 : Int32) + 1 = 1 := by decide
theorem i66_48 : zi 66 48 49 17 6 0 := by decide +kernel
theorem i66_11 : zi 66 11 12 0 0 8 := by decide +kernel
theorem i66_12 : zi 66 12 13 17 21 0 := by decide +kernel
theorem ka_1_1 : (1 : Int32) + 1 = 2 := by decide
theorem ka_2_1 : (2 : Int32) + 1 = 3 := by decide
theorem i66_49 : zi 66 49 50 1 4 0 := by decide +kernel
theorem i66_50 : zi 66 50 51 25 0 0 := by decide +kernel
theorem ml_66 : z_ml 66 = 9 := by decide +kernel
theorem en_66 : ∀ (v0 v1 v2 v3 : zV), z_ent 66 [v0, v1, v2, v3] = [some v0, some v1, some v2, some v3, none, none, none, none, none] := fun v0 v1 v2 v3 => by unfold z_ent; rw [ml_66]; rfl
set_option maxRecDepth 100000 in
theorem s55_2 {L : Nat} (x1 x2 : Int32) (S : zS) (g0 : (¬ ((S 6 0) ≤ x2)) → zx 40 x2) (g1 : (¬ ((S 6 0) ≤ x2)) → ((S 46 x2.toNatClampNeg) = 0) → ((S 44 x2.toNatClampNeg) = x1) → zx 3 (S 43 x2.toNatClampNeg)) : zt L 55 2 [some (.inr (.inr 6)), some (.inl x1), some (.inl x2)] [] S (if ((S 6 0) ≤ x2) then (.inl (23, [some (.inr (.inr 6)), some (.inl x1), some (.inl x2)], [], S)) else (.inl (2, [some (.inr (.inr 6)), some (.inl x1), some (.inl (x2 + 1))], [], (if ((S 46 x2.toNatClampNeg) = 0) then (if ((S 44 x2.toNatClampNeg) = x1) then (G60 x2 (z_up S 44 x2.toNatClampNeg x1)) else S) else S)))) := zr_1_2 i55_2 (zr_2_0 i55_3 (zr_6 i55_4 fl_6_0 rfl (zr_19_3 i55_5 (fun h579 => zt_rfl) (fun h580 => zr_2_0 i55_6 (zr_6r i55_7 fl_6_6 (zr_1_2 i55_8 (zr_8 i55_9 ar_46 (g0 h580) rfl rfl (zt_trans (zt_cast (zr_18_1 i55_10 (fun h581 => zr_2_0 i55_11 (zr_6r i55_12 fl_6_4 (zr_1_2 i55_13 (zr_8 i55_14 ar_44 (g0 h580) rfl rfl (zr_1_1 i55_15 (zt_cast (zr_19_1 i55_16 (fun h583 => zr_2_0 i55_17 (zr_1_2 i55_18 (zr_1_1 i55_19 (zr_cn (zs_21_2 i55_20 na_59 ob_6 rfl) (f59 x2 x1 S (g0 h580) (g1 h580 h581 h583)) (zt_rfl))))) (fun h584 => zt_rfl)) (zm_c zz_s zz_s zz_e))))))) (fun h582 => zt_rfl)) (zm_c zz_s zz_s zz_e)) (zr_5_2 i55_21 kc_1 (zr_17 i55_22 (zt_rfl)))))))))))
def k55_2 (x1 : Int32) (j : Nat) (a : zS) : zS := (if ((a 46 j) = 0) then (if ((a 44 j) = x1) then (G60 (Int32.ofNat j) (z_up a 44 j x1)) else a) else a)
set_option maxRecDepth 100000 in
theorem l55_2 {L : Nat} (x1 : Int32) (i0 n : Nat) (a : zS) (hn : i0 + n < 2147483648) (hc0 : ∀ j, j < n → ¬ (((zfold (k55_2 x1 ) i0 j a) 6 0) ≤ (Int32.ofNat (i0 + j)))) (g0 : ∀ j, j < n → (¬ (((zfold (k55_2 x1 ) i0 j a) 6 0) ≤ (Int32.ofNat (i0 + j)))) → zx 40 (Int32.ofNat (i0 + j))) (g1 : ∀ j, j < n → (¬ (((zfold (k55_2 x1 ) i0 j a) 6 0) ≤ (Int32.ofNat (i0 + j)))) → (((zfold (k55_2 x1 ) i0 j a) 46 (i0 + j)) = 0) → (((zfold (k55_2 x1 ) i0 j a) 44 (i0 + j)) = x1) → zx 3 ((zfold (k55_2 x1 ) i0 j a) 43 (i0 + j))) : zt L 55 2 [some (.inr (.inr 6)), some (.inl x1), some (.inl (Int32.ofNat i0))] [] a (.inl (2, [some (.inr (.inr 6)), some (.inl x1), some (.inl (Int32.ofNat (i0 + n)))], [], (zfold (k55_2 x1 ) i0 n a))) := by
  induction n with
  | zero => exact zt_rfl
  | succ n ih =>
    have e1 := zk_ix (i0 + n) (by omega)
    have e2 := zk_add (i0 + n)
    refine zt_trans (ih (by omega) (fun j hj => hc0 j (by omega)) (fun j hj => g0 j (by omega)) (fun j hj => g1 j (by omega))) ?_
    refine zt_cast (s55_2 x1 (Int32.ofNat (i0 + n)) (zfold (k55_2 x1 ) i0 n a) (by have hg := g0 n (by omega); first | exact hg | (simp only [e1]; exact hg)) (by have hg := g1 n (by omega); first | exact hg | (simp only [e1]; exact hg))) ?_
    rw [if_neg (show ¬ (((zfold (k55_2 x1 ) i0 n a) 6 0) ≤ (Int32.ofNat (i0 + n))) from (by have hg := hc0 n (by omega); first | exact hg | (simp only [e1]; exact hg)))]
    simp only [zfold, k55_2, e1, e2, ← Nat.add_assoc]
def K55_2 (x1 : Int32) (i0 : Nat) (S : zS) : zS := zfold (k55_2 x1 ) i0 ((S 6 0).toNatClampNeg - i0) S
def K55_2_S (x1 : Int32) (i0 : Nat) (S : zS) : zS := (K55_2 x1 i0 S)
set_option maxRecDepth 100000 in
theorem L55_2 {L : Nat} (x1 : Int32) (i0 : Nat) (S : zS) (hi : i0 ≤ 10000) (h0 : zn 40 (S 6 0)) (hA1 : zA 40 3 (S 43)) : zt L 55 2 [some (.inr (.inr 6)), some (.inl x1), some (.inl (Int32.ofNat i0))] [] S (.inl (23, [some (.inr (.inr 6)), some (.inl x1), some (.inl (Int32.ofNat (i0 + ((S 6 0).toNatClampNeg - i0))))], [], (K55_2_S x1 i0 S))) := by
  have hk43 : ∀ n, (zfold (k55_2 x1 ) i0 n S) 43 = S 43 := fun n => zfold_keep (f := (k55_2 x1 )) (fun (b : zS) => b 43) (fun j b => by unfold k55_2; exact (show (if ((b 46 j) = 0) then (if ((b 44 j) = x1) then (G60 (Int32.ofNat j) (z_up b 44 j x1)) else b) else b) 43 = b 43 from (zite_k (zite_k ((w_G60_43 _ _).trans (zupc rfl)) rfl) rfl))) n S
  have hk6_0 : ∀ n, (zfold (k55_2 x1 ) i0 n S) 6 0 = S 6 0 := fun n => zfold_keep (f := (k55_2 x1 )) (fun (b : zS) => b 6 0) (fun j b => by unfold k55_2; exact (show (if ((b 46 j) = 0) then (if ((b 44 j) = x1) then (G60 (Int32.ofNat j) (z_up b 44 j x1)) else b) else b) 6 0 = b 6 0 from (zite_rd (zite_rd ((w_G60_6_0 _ _).trans (zupci rfl)) rfl) rfl))) n S
  have hend : (zfold (k55_2 x1 ) i0 ((S 6 0).toNatClampNeg - i0) S) 6 0 ≤ Int32.ofNat (i0 + ((S 6 0).toNatClampNeg - i0)) := by rw [hk6_0]; exact zc_le_end h0 (by omega)
  refine zt_trans (l55_2 x1   i0 ((S 6 0).toNatClampNeg - i0) S (by have := zn_cl h0; omega) (fun j hj => by rw [hk6_0]; exact zc_le h0 hj (by omega)) (fun j hj _ => by exact zx_of (by have := zn_cl h0; omega) (by have := zn_cl h0; omega)) (fun j hj _ _ _ => by rw [hk43 j]; have := zn_cl h0; exact hA1 _ (by omega))) ?_
  exact zt_cast (s55_2 x1 (Int32.ofNat (i0 + ((S 6 0).toNatClampNeg - i0))) (zfold (k55_2 x1 ) i0 ((S 6 0).toNatClampNeg - i0) S) (fun h9 => absurd hend h9) (fun h9 => absurd hend h9)) (if_pos hend)
set_option maxRecDepth 100000 in
theorem f55 {L : Nat} (a : Int32) (S : zS) (g0 : zn 40 (S 6 0)) (g1 : zA 40 3 (S 43)) : zf L 55 [.inr (.inr 6), .inl a] S (.inl none, (K55_2_S a 0 S), 0) := zf_of (en_55 _ _) (zr_0 i55_0 kc_0 (zr_3_2 i55_1 (zt_trans (L55_2 a 0 S (by decide) (g0) (g1)) (zr_27 i55_23))))
set_option maxRecDepth 100000 in
theorem s56_2 {L : Nat} (x1 x2 : Int32) (S : zS) (g0 : (¬ ((S 6 0) ≤ x2)) → zx 40 x2) (g1 : (¬ ((S 6 0) ≤ x2)) → ((S 46 x2.toNatClampNeg) = 1) → (¬ (x1 ≤ (S 44 x2.toNatClampNeg))) → zx 3 (S 43 x2.toNatClampNeg)) : zt L 56 2 [some (.inr (.inr 6)), some (.inl x1), some (.inl x2)] [] S (if ((S 6 0) ≤ x2) then (.inl (23, [some (.inr (.inr 6)), some (.inl x1), some (.inl x2)], [], S)) else (.inl (2, [some (.inr (.inr 6)), some (.inl x1), some (.inl (x2 + 1))], [], (if ((S 46 x2.toNatClampNeg) = 1) then (if (x1 ≤ (S 44 x2.toNatClampNeg)) then S else (G60 x2 S)) else S)))) := zr_1_2 i56_2 (zr_2_0 i56_3 (zr_6 i56_4 fl_6_0 rfl (zr_19_3 i56_5 (fun h597 => zt_rfl) (fun h598 => zr_2_0 i56_6 (zr_6r i56_7 fl_6_6 (zr_1_2 i56_8 (zr_8 i56_9 ar_46 (g0 h598) rfl rfl (zr_0 i56_10 kc_1 (zt_trans (zt_cast (zr_19_1 i56_11 (fun h599 => zr_2_0 i56_12 (zr_6r i56_13 fl_6_4 (zr_1_2 i56_14 (zr_8 i56_15 ar_44 (g0 h598) rfl rfl (zr_1_1 i56_16 (zt_cast (zr_19_3 i56_17 (fun h601 => zt_rfl) (fun h602 => zr_2_0 i56_18 (zr_1_2 i56_19 (zr_cn (zs_21_1 i56_20 na_60 ob_6 rfl) (f60 x2 S (g0 h598) (g1 h598 h599 h602)) (zt_rfl))))) (zm_c zz_s zz_s zz_e))))))) (fun h600 => zt_rfl)) (zm_c zz_s zz_s zz_e)) (zr_5_2 i56_21 kc_1 (zr_17 i56_22 (zt_rfl))))))))))))
def k56_2 (x1 : Int32) (j : Nat) (a : zS) : zS := (if ((a 46 j) = 1) then (if (x1 ≤ (a 44 j)) then a else (G60 (Int32.ofNat j) a)) else a)
set_option maxRecDepth 100000 in
theorem l56_2 {L : Nat} (x1 : Int32) (i0 n : Nat) (a : zS) (hn : i0 + n < 2147483648) (hc0 : ∀ j, j < n → ¬ (((zfold (k56_2 x1 ) i0 j a) 6 0) ≤ (Int32.ofNat (i0 + j)))) (g0 : ∀ j, j < n → (¬ (((zfold (k56_2 x1 ) i0 j a) 6 0) ≤ (Int32.ofNat (i0 + j)))) → zx 40 (Int32.ofNat (i0 + j))) (g1 : ∀ j, j < n → (¬ (((zfold (k56_2 x1 ) i0 j a) 6 0) ≤ (Int32.ofNat (i0 + j)))) → (((zfold (k56_2 x1 ) i0 j a) 46 (i0 + j)) = 1) → (¬ (x1 ≤ ((zfold (k56_2 x1 ) i0 j a) 44 (i0 + j)))) → zx 3 ((zfold (k56_2 x1 ) i0 j a) 43 (i0 + j))) : zt L 56 2 [some (.inr (.inr 6)), some (.inl x1), some (.inl (Int32.ofNat i0))] [] a (.inl (2, [some (.inr (.inr 6)), some (.inl x1), some (.inl (Int32.ofNat (i0 + n)))], [], (zfold (k56_2 x1 ) i0 n a))) := by
  induction n with
  | zero => exact zt_rfl
  | succ n ih =>
    have e1 := zk_ix (i0 + n) (by omega)
    have e2 := zk_add (i0 + n)
    refine zt_trans (ih (by omega) (fun j hj => hc0 j (by omega)) (fun j hj => g0 j (by omega)) (fun j hj => g1 j (by omega))) ?_
    refine zt_cast (s56_2 x1 (Int32.ofNat (i0 + n)) (zfold (k56_2 x1 ) i0 n a) (by have hg := g0 n (by omega); first | exact hg | (simp only [e1]; exact hg)) (by have hg := g1 n (by omega); first | exact hg | (simp only [e1]; exact hg))) ?_
    rw [if_neg (show ¬ (((zfold (k56_2 x1 ) i0 n a) 6 0) ≤ (Int32.ofNat (i0 + n))) from (by have hg := hc0 n (by omega); first | exact hg | (simp only [e1]; exact hg)))]
    simp only [zfold, k56_2, e1, e2, ← Nat.add_assoc]
def K56_2 (x1 : Int32) (i0 : Nat) (S : zS) : zS := zfold (k56_2 x1 ) i0 ((S 6 0).toNatClampNeg - i0) S
def K56_2_S (x1 : Int32) (i0 : Nat) (S : zS) : zS := (K56_2 x1 i0 S)
set_option maxRecDepth 100000 in
theorem L56_2 {L : Nat} (x1 : Int32) (i0 : Nat) (S : zS) (hi : i0 ≤ 10000) (h0 : zn 40 (S 6 0)) (hA1 : zA 40 3 (S 43)) : zt L 56 2 [some (.inr (.inr 6)), some (.inl x1), some (.inl (Int32.ofNat i0))] [] S (.inl (23, [some (.inr (.inr 6)), some (.inl x1), some (.inl (Int32.ofNat (i0 + ((S 6 0).toNatClampNeg - i0))))], [], (K56_2_S x1 i0 S))) := by
  have hk43 : ∀ n, (zfold (k56_2 x1 ) i0 n S) 43 = S 43 := fun n => zfold_keep (f := (k56_2 x1 )) (fun (b : zS) => b 43) (fun j b => by unfold k56_2; exact (show (if ((b 46 j) = 1) then (if (x1 ≤ (b 44 j)) then b else (G60 (Int32.ofNat j) b)) else b) 43 = b 43 from (zite_k (zite_k rfl (w_G60_43 _ _)) rfl))) n S
  have hk6_0 : ∀ n, (zfold (k56_2 x1 ) i0 n S) 6 0 = S 6 0 := fun n => zfold_keep (f := (k56_2 x1 )) (fun (b : zS) => b 6 0) (fun j b => by unfold k56_2; exact (show (if ((b 46 j) = 1) then (if (x1 ≤ (b 44 j)) then b else (G60 (Int32.ofNat j) b)) else b) 6 0 = b 6 0 from (zite_rd (zite_rd rfl (w_G60_6_0 _ _)) rfl))) n S
  have hend : (zfold (k56_2 x1 ) i0 ((S 6 0).toNatClampNeg - i0) S) 6 0 ≤ Int32.ofNat (i0 + ((S 6 0).toNatClampNeg - i0)) := by rw [hk6_0]; exact zc_le_end h0 (by omega)
  refine zt_trans (l56_2 x1   i0 ((S 6 0).toNatClampNeg - i0) S (by have := zn_cl h0; omega) (fun j hj => by rw [hk6_0]; exact zc_le h0 hj (by omega)) (fun j hj _ => by exact zx_of (by have := zn_cl h0; omega) (by have := zn_cl h0; omega)) (fun j hj _ _ _ => by rw [hk43 j]; have := zn_cl h0; exact hA1 _ (by omega))) ?_
  exact zt_cast (s56_2 x1 (Int32.ofNat (i0 + ((S 6 0).toNatClampNeg - i0))) (zfold (k56_2 x1 ) i0 ((S 6 0).toNatClampNeg - i0) S) (fun h9 => absurd hend h9) (fun h9 => absurd hend h9)) (if_pos hend)
set_option maxRecDepth 100000 in
theorem f56 {L : Nat} (a : Int32) (S : zS) (g0 : zn 40 (S 6 0)) (g1 : zA 40 3 (S 43)) : zf L 56 [.inr (.inr 6), .inl a] S (.inl none, (K56_2_S a 0 S), 0) := zf_of (en_56 _ _) (zr_0 i56_0 kc_0 (zr_3_2 i56_1 (zt_trans (L56_2 a 0 S (by decide) (g0) (g1)) (zr_27 i56_23))))
set_option maxRecDepth 100000 in
theorem s57_2 {L : Nat} (x1 : Int32) (S : zS) (g0 : (¬ (3 ≤ x1)) → zx 3 x1) : zt L 57 2 [some (.inr (.inr 6)), some (.inl x1)] [] S (if (3 ≤ x1) then (.inl (28, [some (.inr (.inr 6)), some (.inl x1)], [], S)) else (.inl (2, [some (.inr (.inr 6)), some (.inl (x1 + 1))], [], (if ((S 48 x1.toNatClampNeg) = 0) then (z_up (z_up S 49 x1.toNatClampNeg ((S 49 x1.toNatClampNeg) - (S 50 x1.toNatClampNeg))) 50 x1.toNatClampNeg 0) else S)))) := zr_1_1 i57_2 (zr_0 i57_3 kc_3 (zr_19_3 i57_4 (fun h611 => zt_rfl) (fun h612 => zr_2_0 i57_5 (zr_6r i57_6 fl_6_8 (zr_1_1 i57_7 (zr_8 i57_8 ar_48 (g0 h612) rfl rfl (zt_trans (zt_cast (zr_18_1 i57_9 (fun h613 => zr_2_0 i57_10 (zr_6r i57_11 fl_6_9 (zr_1_1 i57_12 (zr_15 i57_13 (zr_8 i57_14 ar_49 (g0 h612) rfl rfl (zr_2_0 i57_15 (zr_6r i57_16 fl_6_10 (zr_1_1 i57_17 (zr_8 i57_18 ar_50 (g0 h612) rfl rfl (zr_13_1 i57_19 (zr_10 i57_20 ar_49 (g0 h612) rfl (zr_2_0 i57_21 (zr_6r i57_22 fl_6_10 (zr_1_1 i57_23 (zr_0 i57_24 kc_0 (zr_10 i57_25 ar_50 (g0 h612) rfl (zt_rfl))))))))))))))))) (fun h614 => zt_rfl)) (zm_c zz_s zz_s zz_e)) (zr_5_1 i57_26 kc_1 (zr_17 i57_27 (zt_rfl))))))))))
def k57_2 (j : Nat) (a : zS) : zS := (if ((a 48 j) = 0) then (z_up (z_up a 49 j ((a 49 j) - (a 50 j))) 50 j 0) else a)
set_option maxRecDepth 100000 in
theorem l57_2 {L : Nat} (i0 n : Nat) (a : zS) (hn : i0 + n < 2147483648) (hc0 : ∀ j, j < n → ¬ (3 ≤ (Int32.ofNat (i0 + j)))) (g0 : ∀ j, j < n → (¬ (3 ≤ (Int32.ofNat (i0 + j)))) → zx 3 (Int32.ofNat (i0 + j))) : zt L 57 2 [some (.inr (.inr 6)), some (.inl (Int32.ofNat i0))] [] a (.inl (2, [some (.inr (.inr 6)), some (.inl (Int32.ofNat (i0 + n)))], [], (zfold (k57_2 ) i0 n a))) := by
  induction n with
  | zero => exact zt_rfl
  | succ n ih =>
    have e1 := zk_ix (i0 + n) (by omega)
    have e2 := zk_add (i0 + n)
    refine zt_trans (ih (by omega) (fun j hj => hc0 j (by omega)) (fun j hj => g0 j (by omega))) ?_
    refine zt_cast (s57_2 (Int32.ofNat (i0 + n)) (zfold (k57_2 ) i0 n a) (by have hg := g0 n (by omega); first | exact hg | (simp only [e1]; exact hg))) ?_
    rw [if_neg (show ¬ (3 ≤ (Int32.ofNat (i0 + n))) from (by have hg := hc0 n (by omega); first | exact hg | (simp only [e1]; exact hg)))]
    simp only [zfold, k57_2, e1, e2, ← Nat.add_assoc]
def K57_2 (i0 : Nat) (S : zS) : zS := zfold (k57_2 ) i0 (3 - i0) S
def K57_2_S (i0 : Nat) (S : zS) : zS := (K57_2  i0 S)
set_option maxRecDepth 100000 in
theorem L57_2 {L : Nat} (i0 : Nat) (S : zS) (hi : i0 ≤ 10000) : zt L 57 2 [some (.inr (.inr 6)), some (.inl (Int32.ofNat i0))] [] S (.inl (28, [some (.inr (.inr 6)), some (.inl (Int32.ofNat (i0 + (3 - i0))))], [], (K57_2_S  i0 S))) := by
  have hend : 3 ≤ Int32.ofNat (i0 + (3 - i0)) := by exact zc_le_end (show zn 3 3 from by unfold zn; decide) (by omega)
  refine zt_trans (l57_2    i0 (3 - i0) S (by omega) (fun j hj => by exact zc_le (show zn 3 3 from by unfold zn; decide) hj (by omega)) (fun j hj _ => by exact zx_of (by omega) (by omega))) ?_
  exact zt_cast (s57_2 (Int32.ofNat (i0 + (3 - i0))) (zfold (k57_2 ) i0 (3 - i0) S) (fun h9 => absurd hend h9)) (if_pos hend)
set_option maxRecDepth 100000 in
theorem f57 {L : Nat} (S : zS) : zf L 57 [.inr (.inr 6)] S (.inl none, (K57_2_S 0 S), 0) := zf_of (en_57 _) (zr_0 i57_0 kc_0 (zr_3_1 i57_1 (zt_trans (L57_2  0 S (by decide) ) (zr_27 i57_28))))
set_option maxRecDepth 100000 in
theorem s58_7 {L : Nat} (x1 x2 x3 : Int32) (S : zS) (g0 : (¬ ((S 6 0) ≤ x3)) → zx 40 x3) : zt L 58 7 [some (.inr (.inr 6)), some (.inl x1), some (.inl x2), some (.inl x3)] [] S (if ((S 6 0) ≤ x3) then (.inl (26, [some (.inr (.inr 6)), some (.inl x1), some (.inl x2), some (.inl x3)], [], S)) else (.inl (7, [some (.inr (.inr 6)), some (.inl x1), some (.inl (if ((S 43 x3.toNatClampNeg) = x1) then ((if ((S 46 x3.toNatClampNeg) = 2) then (x2 : Int32) else (x2 + 1)) : Int32) else x2)), some (.inl (x3 + 1))], [], S))) := zr_1_3 i58_7 (zr_2_0 i58_8 (zr_6 i58_9 fl_6_0 rfl (zr_19_3 i58_10 (fun h627 => zt_rfl) (fun h628 => zr_2_0 i58_11 (zr_6r i58_12 fl_6_3 (zr_1_3 i58_13 (zr_8 i58_14 ar_43 (g0 h628) rfl rfl (zr_1_1 i58_15 (zt_trans (zt_cast (zr_19_1 i58_16 (fun h629 => zr_2_0 i58_17 (zr_6r i58_18 fl_6_6 (zr_1_3 i58_19 (zr_8 i58_20 ar_46 (g0 h628) rfl rfl (zr_0 i58_21 kc_2 (zt_cast (zr_19_0 i58_22 (fun h631 => zt_rfl) (fun h632 => zr_5_2 i58_23 kc_1 (zt_rfl))) (zm_c (zl_c zz_s (zl_c zz_s (zl_c (zl_v zz_e) zz_s))) zz_s zz_s))))))) (fun h630 => zt_rfl)) (zm_c (zl_c zz_s (zl_c zz_s (zl_c (zl_v zz_e) zz_s))) zz_s zz_s)) (zr_5_3 i58_24 kc_1 (zr_17 i58_25 (zt_rfl))))))))))))
def k58_7 (x1 : Int32) (S : zS) (j : Nat) (a : Int32) : Int32 := (if ((S 43 j) = x1) then ((if ((S 46 j) = 2) then (a : Int32) else (a + 1)) : Int32) else a)
set_option maxRecDepth 100000 in
theorem l58_7 {L : Nat} (x1 : Int32) (S : zS) (i0 n : Nat) (a : Int32) (hn : i0 + n < 2147483648) (hc0 : ∀ j, j < n → ¬ ((S 6 0) ≤ (Int32.ofNat (i0 + j)))) (g0 : ∀ j, j < n → (¬ ((S 6 0) ≤ (Int32.ofNat (i0 + j)))) → zx 40 (Int32.ofNat (i0 + j))) : zt L 58 7 [some (.inr (.inr 6)), some (.inl x1), some (.inl a), some (.inl (Int32.ofNat i0))] [] S (.inl (7, [some (.inr (.inr 6)), some (.inl x1), some (.inl (zfold (k58_7 x1 S) i0 n a)), some (.inl (Int32.ofNat (i0 + n)))], [], S)) := by
  induction n with
  | zero => exact zt_rfl
  | succ n ih =>
    have e1 := zk_ix (i0 + n) (by omega)
    have e2 := zk_add (i0 + n)
    refine zt_trans (ih (by omega) (fun j hj => hc0 j (by omega)) (fun j hj => g0 j (by omega))) ?_
    refine zt_cast (s58_7 x1 (zfold (k58_7 x1 S) i0 n a) (Int32.ofNat (i0 + n)) S (by have hg := g0 n (by omega); first | exact hg | (simp only [e1]; exact hg))) ?_
    rw [if_neg (show ¬ ((S 6 0) ≤ (Int32.ofNat (i0 + n))) from (by have hg := hc0 n (by omega); first | exact hg | (simp only [e1]; exact hg)))]
    simp only [zfold, k58_7, e1, e2, ← Nat.add_assoc]
def K58_7 (x1 x2 : Int32) (i0 : Nat) (S : zS) : Int32 := zfold (k58_7 x1 S) i0 ((S 6 0).toNatClampNeg - i0) x2
def K58_7_c2 (x1 x2 : Int32) (i0 : Nat) (S : zS) : Int32 := (K58_7 x1 x2 i0 S)
set_option maxRecDepth 100000 in
theorem L58_7 {L : Nat} (x1 x2 : Int32) (i0 : Nat) (S : zS) (hi : i0 ≤ 10000) (h0 : zn 40 (S 6 0)) : zt L 58 7 [some (.inr (.inr 6)), some (.inl x1), some (.inl x2), some (.inl (Int32.ofNat i0))] [] S (.inl (26, [some (.inr (.inr 6)), some (.inl x1), some (.inl (K58_7_c2 x1 x2 i0 S)), some (.inl (Int32.ofNat (i0 + ((S 6 0).toNatClampNeg - i0))))], [], S)) := by
  have hend : (S 6 0) ≤ Int32.ofNat (i0 + ((S 6 0).toNatClampNeg - i0)) := by exact zc_le_end h0 (by omega)
  refine zt_trans (l58_7 x1  S i0 ((S 6 0).toNatClampNeg - i0) x2 (by have := zn_cl h0; omega) (fun j hj => by exact zc_le h0 hj (by omega)) (fun j hj _ => by exact zx_of (by have := zn_cl h0; omega) (by have := zn_cl h0; omega))) ?_
  exact zt_cast (s58_7 x1 (zfold (k58_7 x1 S) i0 ((S 6 0).toNatClampNeg - i0) x2) (Int32.ofNat (i0 + ((S 6 0).toNatClampNeg - i0))) S (fun h9 => absurd hend h9)) (if_pos hend)
set_option maxRecDepth 100000 in
theorem f58 {L : Nat} (a : Int32) (S : zS) (g0 : zx 3 a) (g1 : zn 40 (S 6 0)) : zf L 58 [.inr (.inr 6), .inl a] S (.inl (some (.inl (K58_7_c2 a (S 50 a.toNatClampNeg) 0 S))), S, 0) := zf_of (en_58 _ _) (zr_2_0 i58_0 (zr_6r i58_1 fl_6_10 (zr_1_1 i58_2 (zr_8 i58_3 ar_50 (g0) rfl rfl (zr_3_2 i58_4 (zr_0 i58_5 kc_0 (zr_3_3 i58_6 (zt_trans (L58_7 a (S 50 a.toNatClampNeg) 0 S (by decide) (g1)) (zr_1_2 i58_26 (zr_25 i58_27))))))))))
set_option maxRecDepth 100000 in
theorem s79_9 {L : Nat} (x1 x2 x3 x4 : Int32) (S : zS) (g0 : (¬ (4 ≤ x4)) → zx 4 x4) : zt L 79 9 [some (.inr (.inr 4)), some (.inl x1), some (.inl x2), some (.inl x3), some (.inl x4)] [] S (if (4 ≤ x4) then (.inl (37, [some (.inr (.inr 4)), some (.inl x1), some (.inl x2), some (.inl x3), some (.inl x4)], [], S)) else (.inl (9, [some (.inr (.inr 4)), some (.inl x1), some (.inl (if (((zshr (S 28 x4.toNatClampNeg) x1) &&& 1) = 1) then ((x2 ||| (zshl 1 x4)) : Int32) else (if (((S 29 x4.toNatClampNeg) &&& x2) = 0) then (x2 : Int32) else (x2 ||| (zshl 1 x4))))), some (.inl x3), some (.inl (x4 + 1))], [], S))) := zr_1_4 i79_9 (zr_0 i79_10 kc_4 (zr_19_3 i79_11 (fun h651 => zt_rfl) (fun h652 => zr_2_0 i79_12 (zr_6r i79_13 fl_4_8 (zr_1_4 i79_14 (zr_8 i79_15 ar_28 (g0 h652) rfl rfl (zr_1_1 i79_16 (zr_13_9 i79_17 (zr_0 i79_18 kc_1 (zr_13_5 i79_19 (zr_0 i79_20 kc_1 (zt_trans (zt_cast (zr_19_0 i79_21 (fun h653 => zr_1_2 i79_29 (zr_0 i79_30 kc_1 (zr_1_4 i79_31 (zr_13_8 i79_32 (zr_13_6 i79_33 (zr_3_2 i79_34 (zt_rfl))))))) (fun h654 => zr_2_0 i79_22 (zr_6r i79_23 fl_4_9 (zr_1_4 i79_24 (zr_8 i79_25 ar_29 (g0 h652) rfl rfl (zr_1_2 i79_26 (zr_13_5 i79_27 (zt_cast (zr_18_0 i79_28 (fun h655 => zt_rfl) (fun h656 => zr_1_2 i79_29 (zr_0 i79_30 kc_1 (zr_1_4 i79_31 (zr_13_8 i79_32 (zr_13_6 i79_33 (zr_3_2 i79_34 (zt_rfl)))))))) (zm_c (zl_c zz_s (zl_c zz_s (zl_c (zl_v zz_e) zz_s))) zz_s zz_s))))))))) (zm_c (zl_c zz_s (zl_c zz_s (zl_c (zl_v zz_e) zz_s))) zz_s zz_s)) (zr_5_4 i79_35 kc_1 (zr_17 i79_36 (zt_rfl)))))))))))))))
def k79_9 (x1 x3 : Int32) (S : zS) (j : Nat) (a : Int32) : Int32 := (if (((zshr (S 28 j) x1) &&& 1) = 1) then ((a ||| (zshl 1 (Int32.ofNat j))) : Int32) else (if (((S 29 j) &&& a) = 0) then (a : Int32) else (a ||| (zshl 1 (Int32.ofNat j)))))
set_option maxRecDepth 100000 in
theorem l79_9 {L : Nat} (x1 x3 : Int32) (S : zS) (i0 n : Nat) (a : Int32) (hn : i0 + n < 2147483648) (hc0 : ∀ j, j < n → ¬ (4 ≤ (Int32.ofNat (i0 + j)))) (g0 : ∀ j, j < n → (¬ (4 ≤ (Int32.ofNat (i0 + j)))) → zx 4 (Int32.ofNat (i0 + j))) : zt L 79 9 [some (.inr (.inr 4)), some (.inl x1), some (.inl a), some (.inl x3), some (.inl (Int32.ofNat i0))] [] S (.inl (9, [some (.inr (.inr 4)), some (.inl x1), some (.inl (zfold (k79_9 x1 x3 S) i0 n a)), some (.inl x3), some (.inl (Int32.ofNat (i0 + n)))], [], S)) := by
  induction n with
  | zero => exact zt_rfl
  | succ n ih =>
    have e1 := zk_ix (i0 + n) (by omega)
    have e2 := zk_add (i0 + n)
    refine zt_trans (ih (by omega) (fun j hj => hc0 j (by omega)) (fun j hj => g0 j (by omega))) ?_
    refine zt_cast (s79_9 x1 (zfold (k79_9 x1 x3 S) i0 n a) x3 (Int32.ofNat (i0 + n)) S (by have hg := g0 n (by omega); first | exact hg | (simp only [e1]; exact hg))) ?_
    rw [if_neg (show ¬ (4 ≤ (Int32.ofNat (i0 + n))) from (by have hg := hc0 n (by omega); first | exact hg | (simp only [e1]; exact hg)))]
    simp only [zfold, k79_9, e1, e2, ← Nat.add_assoc]
def K79_9 (x1 x2 x3 : Int32) (i0 : Nat) (S : zS) : Int32 := zfold (k79_9 x1 x3 S) i0 (4 - i0) x2
def K79_9_c2 (x1 x2 x3 : Int32) (i0 : Nat) (S : zS) : Int32 := (K79_9 x1 x2 x3 i0 S)
set_option maxRecDepth 100000 in
theorem L79_9 {L : Nat} (x1 x2 x3 : Int32) (i0 : Nat) (S : zS) (hi : i0 ≤ 10000) : zt L 79 9 [some (.inr (.inr 4)), some (.inl x1), some (.inl x2), some (.inl x3), some (.inl (Int32.ofNat i0))] [] S (.inl (37, [some (.inr (.inr 4)), some (.inl x1), some (.inl (K79_9_c2 x1 x2 x3 i0 S)), some (.inl x3), some (.inl (Int32.ofNat (i0 + (4 - i0))))], [], S)) := by
  have hend : 4 ≤ Int32.ofNat (i0 + (4 - i0)) := by exact zc_le_end (show zn 4 4 from by unfold zn; decide) (by omega)
  refine zt_trans (l79_9 x1 x3  S i0 (4 - i0) x2 (by omega) (fun j hj => by exact zc_le (show zn 4 4 from by unfold zn; decide) hj (by omega)) (fun j hj _ => by exact zx_of (by omega) (by omega))) ?_
  exact zt_cast (s79_9 x1 (zfold (k79_9 x1 x3 S) i0 (4 - i0) x2) x3 (Int32.ofNat (i0 + (4 - i0))) S (fun h9 => absurd hend h9)) (if_pos hend)
set_option maxRecDepth 100000 in
theorem s79_4 {L : Nat} (x1 x2 x3 : Int32) (u4 : Option zV) (S : zS) : zt L 79 4 [some (.inr (.inr 4)), some (.inl x1), some (.inl x2), some (.inl x3), u4] [] S (if (4 ≤ x3) then (.inl (39, [some (.inr (.inr 4)), some (.inl x1), some (.inl x2), some (.inl x3), u4], [], S)) else (.inl (4, [some (.inr (.inr 4)), some (.inl x1), some (.inl (K79_9_c2 x1 x2 x3 0 S)), some (.inl (x3 + 1)), some (.inl (Int32.ofNat (0 + (4 - 0))))], [], S))) := zr_1_3 i79_4 (zr_0 i79_5 kc_4 (zr_19_3 i79_6 (fun h657 => zt_rfl) (fun h658 => zr_0 i79_7 kc_0 (zr_3_4 i79_8 (zt_trans (L79_9 x1 x2 x3 0 S (by decide) ) (zr_5_3 i79_37 kc_1 (zr_17 i79_38 (zt_rfl))))))))
def k79_4 (x1 : Int32) (S : zS) (j : Nat) (a : Int32 × Option zV) : Int32 × Option zV := ((K79_9_c2 x1 a.1 (Int32.ofNat j) 0 S), (some (.inl (Int32.ofNat (0 + (4 - 0))))))
set_option maxRecDepth 100000 in
theorem l79_4 {L : Nat} (x1 : Int32) (S : zS) (i0 n : Nat) (a : Int32 × Option zV) (hn : i0 + n < 2147483648) (hc0 : ∀ j, j < n → ¬ (4 ≤ (Int32.ofNat (i0 + j)))) : zt L 79 4 [some (.inr (.inr 4)), some (.inl x1), some (.inl a.1), some (.inl (Int32.ofNat i0)), a.2] [] S (.inl (4, [some (.inr (.inr 4)), some (.inl x1), some (.inl (zfold (k79_4 x1 S) i0 n a).1), some (.inl (Int32.ofNat (i0 + n))), (zfold (k79_4 x1 S) i0 n a).2], [], S)) := by
  induction n with
  | zero => exact zt_rfl
  | succ n ih =>
    have e1 := zk_ix (i0 + n) (by omega)
    have e2 := zk_add (i0 + n)
    refine zt_trans (ih (by omega) (fun j hj => hc0 j (by omega))) ?_
    refine zt_cast (s79_4 x1 (zfold (k79_4 x1 S) i0 n a).1 (Int32.ofNat (i0 + n)) (zfold (k79_4 x1 S) i0 n a).2 S) ?_
    rw [if_neg (show ¬ (4 ≤ (Int32.ofNat (i0 + n))) from (by have hg := hc0 n (by omega); first | exact hg | (simp only [e1]; exact hg)))]
    simp only [zfold, k79_4, e1, e2, ← Nat.add_assoc]
def K79_4 (x1 x2 : Int32) (u4 : Option zV) (i0 : Nat) (S : zS) : Int32 × Option zV := zfold (k79_4 x1 S) i0 (4 - i0) (x2, u4)
def K79_4_c2 (x1 x2 : Int32) (u4 : Option zV) (i0 : Nat) (S : zS) : Int32 := (K79_4 x1 x2 u4 i0 S).1
def K79_4_c4 (x1 x2 : Int32) (u4 : Option zV) (i0 : Nat) (S : zS) : Option zV := (K79_4 x1 x2 u4 i0 S).2
set_option maxRecDepth 100000 in
theorem L79_4 {L : Nat} (x1 x2 : Int32) (u4 : Option zV) (i0 : Nat) (S : zS) (hi : i0 ≤ 10000) : zt L 79 4 [some (.inr (.inr 4)), some (.inl x1), some (.inl x2), some (.inl (Int32.ofNat i0)), u4] [] S (.inl (39, [some (.inr (.inr 4)), some (.inl x1), some (.inl (K79_4_c2 x1 x2 u4 i0 S)), some (.inl (Int32.ofNat (i0 + (4 - i0)))), (K79_4_c4 x1 x2 u4 i0 S)], [], S)) := by
  have hend : 4 ≤ Int32.ofNat (i0 + (4 - i0)) := by exact zc_le_end (show zn 4 4 from by unfold zn; decide) (by omega)
  refine zt_trans (l79_4 x1  S i0 (4 - i0) (x2, u4) (by omega) (fun j hj => by exact zc_le (show zn 4 4 from by unfold zn; decide) hj (by omega)) ) ?_
  exact zt_cast (s79_4 x1 (zfold (k79_4 x1 S) i0 (4 - i0) (x2, u4)).1 (Int32.ofNat (i0 + (4 - i0))) (zfold (k79_4 x1 S) i0 (4 - i0) (x2, u4)).2 S ) (if_pos hend)
set_option maxRecDepth 100000 in
theorem f79 {L : Nat} (a : Int32) (S : zS) : zf L 79 [.inr (.inr 4), .inl a] S (.inl (some (.inl (K79_4_c2 a 0 (none : Option zV) 0 S))), S, 0) := zf_of (en_79 _ _) (zr_0 i79_0 kc_0 (zr_3_2 i79_1 (zr_0 i79_2 kc_0 (zr_3_3 i79_3 (zt_trans (L79_4 a 0 (none : Option zV) 0 S (by decide) ) (zr_1_2 i79_39 (zr_25 i79_40)))))))
set_option maxRecDepth 100000 in
theorem s78_18 {L : Nat} (x1 x2 x3 x4 : Int32) (S : zS) (g0 : (¬ (4 ≤ x4)) → (((zshr x3 x4) &&& 1) = 1) → zx 4 x4) : zt L 78 18 [some (.inr (.inr 4)), some (.inl x1), some (.inl x2), some (.inl x3), some (.inl x4)] [] S (if (4 ≤ x4) then (.inl (37, [some (.inr (.inr 4)), some (.inl x1), some (.inl x2), some (.inl x3), some (.inl x4)], [], S)) else (.inl (18, [some (.inr (.inr 4)), some (.inl x1), some (.inl (if (((zshr x3 x4) &&& 1) = 1) then ((x2 ||| (S 27 x4.toNatClampNeg)) : Int32) else x2)), some (.inl x3), some (.inl (x4 + 1))], [], S))) := zr_1_4 i78_18 (zr_0 i78_19 kc_4 (zr_19_3 i78_20 (fun h675 => zt_rfl) (fun h676 => zr_1_3 i78_21 (zr_1_4 i78_22 (zr_13_9 i78_23 (zr_0 i78_24 kc_1 (zr_13_5 i78_25 (zr_0 i78_26 kc_1 (zt_trans (zt_cast (zr_19_1 i78_27 (fun h677 => zr_1_2 i78_28 (zr_2_0 i78_29 (zr_6r i78_30 fl_4_7 (zr_1_4 i78_31 (zr_8 i78_32 ar_27 (g0 h676 h677) rfl rfl (zr_13_6 i78_33 (zr_3_2 i78_34 (zt_rfl)))))))) (fun h678 => zt_rfl)) (zm_c (zl_c zz_s (zl_c zz_s (zl_c (zl_v zz_e) zz_s))) zz_s zz_s)) (zr_5_4 i78_35 kc_1 (zr_17 i78_36 (zt_rfl))))))))))))
def k78_18 (x1 x3 : Int32) (S : zS) (j : Nat) (a : Int32) : Int32 := (if (((zshr x3 (Int32.ofNat j)) &&& 1) = 1) then ((a ||| (S 27 j)) : Int32) else a)
set_option maxRecDepth 100000 in
theorem l78_18 {L : Nat} (x1 x3 : Int32) (S : zS) (i0 n : Nat) (a : Int32) (hn : i0 + n < 2147483648) (hc0 : ∀ j, j < n → ¬ (4 ≤ (Int32.ofNat (i0 + j)))) (g0 : ∀ j, j < n → (¬ (4 ≤ (Int32.ofNat (i0 + j)))) → (((zshr x3 (Int32.ofNat (i0 + j))) &&& 1) = 1) → zx 4 (Int32.ofNat (i0 + j))) : zt L 78 18 [some (.inr (.inr 4)), some (.inl x1), some (.inl a), some (.inl x3), some (.inl (Int32.ofNat i0))] [] S (.inl (18, [some (.inr (.inr 4)), some (.inl x1), some (.inl (zfold (k78_18 x1 x3 S) i0 n a)), some (.inl x3), some (.inl (Int32.ofNat (i0 + n)))], [], S)) := by
  induction n with
  | zero => exact zt_rfl
  | succ n ih =>
    have e1 := zk_ix (i0 + n) (by omega)
    have e2 := zk_add (i0 + n)
    refine zt_trans (ih (by omega) (fun j hj => hc0 j (by omega)) (fun j hj => g0 j (by omega))) ?_
    refine zt_cast (s78_18 x1 (zfold (k78_18 x1 x3 S) i0 n a) x3 (Int32.ofNat (i0 + n)) S (by have hg := g0 n (by omega); first | exact hg | (simp only [e1]; exact hg))) ?_
    rw [if_neg (show ¬ (4 ≤ (Int32.ofNat (i0 + n))) from (by have hg := hc0 n (by omega); first | exact hg | (simp only [e1]; exact hg)))]
    simp only [zfold, k78_18, e1, e2, ← Nat.add_assoc]
def K78_18 (x1 x2 x3 : Int32) (i0 : Nat) (S : zS) : Int32 := zfold (k78_18 x1 x3 S) i0 (4 - i0) x2
def K78_18_c2 (x1 x2 x3 : Int32) (i0 : Nat) (S : zS) : Int32 := (K78_18 x1 x2 x3 i0 S)
set_option maxRecDepth 100000 in
theorem L78_18 {L : Nat} (x1 x2 x3 : Int32) (i0 : Nat) (S : zS) (hi : i0 ≤ 10000) : zt L 78 18 [some (.inr (.inr 4)), some (.inl x1), some (.inl x2), some (.inl x3), some (.inl (Int32.ofNat i0))] [] S (.inl (37, [some (.inr (.inr 4)), some (.inl x1), some (.inl (K78_18_c2 x1 x2 x3 i0 S)), some (.inl x3), some (.inl (Int32.ofNat (i0 + (4 - i0))))], [], S)) := by
  have hend : 4 ≤ Int32.ofNat (i0 + (4 - i0)) := by exact zc_le_end (show zn 4 4 from by unfold zn; decide) (by omega)
  refine zt_trans (l78_18 x1 x3  S i0 (4 - i0) x2 (by omega) (fun j hj => by exact zc_le (show zn 4 4 from by unfold zn; decide) hj (by omega)) (fun j hj _ _ => by exact zx_of (by omega) (by omega))) ?_
  exact zt_cast (s78_18 x1 (zfold (k78_18 x1 x3 S) i0 (4 - i0) x2) x3 (Int32.ofNat (i0 + (4 - i0))) S (fun h9 => absurd hend h9)) (if_pos hend)
set_option maxRecDepth 100000 in
theorem f78 {L : Nat} (a : Int32) (S : zS) (g0 : (¬ (a < 0)) → (a < 8) → zx 8 a) : zf L 78 [.inr (.inr 4), .inl a] S (.inl (some (.inl (if (a < 0) then (0 : Int32) else (if (a < 8) then ((K78_18_c2 a (S 26 a.toNatClampNeg) (K79_4_c2 a 0 (none : Option zV) 0 S) 0 S) : Int32) else 0)))), S, 0) := zf_of (en_78 _ _) (zr_1_1 i78_0 (zt_cast (zr_18_2 i78_1 (fun h679 => zr_0 i78_5 kc_0 (zr_25 i78_6)) (fun h680 => zr_1_1 i78_2 (zr_0 i78_3 kc_8 (zt_cast (zr_19_2 i78_4 (fun h681 => zr_2_0 i78_7 (zr_6r i78_8 fl_4_6 (zr_1_1 i78_9 (zr_8 i78_10 ar_26 (g0 h680 h681) rfl rfl (zr_3_2 i78_11 (zr_2_0 i78_12 (zr_1_1 i78_13 (zr_cv (zs_21_1 i78_14 na_79 ob_4 rfl) (f79 a S ) (zr_3_3 i78_15 (zr_0 i78_16 kc_0 (zr_3_4 i78_17 (zt_trans (L78_18 a (S 26 a.toNatClampNeg) (K79_4_c2 a 0 (none : Option zV) 0 S) 0 S (by decide) ) (zr_1_2 i78_37 (zr_25 i78_38)))))))))))))) (fun h682 => zr_0 i78_5 kc_0 (zr_25 i78_6))) (zm_r zz_e zz_s))))) (zm_r zz_e zz_s)))
def F66 (a b c : Int32) (S : zS) : Int32 := (if ((F67 (S 21 ((a * 3) + 0).toNatClampNeg) b (if (0 = 0) then ((c / 36) : Int32) else (if (0 = 1) then ((zrem (c / 6) 6) : Int32) else (zrem c 6))) S) = 4) then (64 : Int32) else (if ((F67 (if ((S 21 ((a * 3) + 0).toNatClampNeg) = 8) then (8 : Int32) else (S 21 ((a * 3) + 1).toNatClampNeg)) b (if (1 = 0) then ((c / 36) : Int32) else (if (1 = 1) then ((zrem (c / 6) 6) : Int32) else (zrem c 6))) S) = 4) then (64 : Int32) else (if ((F67 (if ((if ((S 21 ((a * 3) + 0).toNatClampNeg) = 8) then (8 : Int32) else (S 21 ((a * 3) + 1).toNatClampNeg)) = 8) then (8 : Int32) else (S 21 ((a * 3) + 2).toNatClampNeg)) b (if (2 = 0) then ((c / 36) : Int32) else (if (2 = 1) then ((zrem (c / 6) 6) : Int32) else (zrem c 6))) S) = 4) then (64 : Int32) else ((((((0 * 4) + (F67 (S 21 ((a * 3) + 0).toNatClampNeg) b (if (0 = 0) then ((c / 36) : Int32) else (if (0 = 1) then ((zrem (c / 6) 6) : Int32) else (zrem c 6))) S)) * 4) + (F67 (if ((S 21 ((a * 3) + 0).toNatClampNeg) = 8) then (8 : Int32) else (S 21 ((a * 3) + 1).toNatClampNeg)) b (if (1 = 0) then ((c / 36) : Int32) else (if (1 = 1) then ((zrem (c / 6) 6) : Int32) else (zrem c 6))) S)) * 4) + (F67 (if ((if ((S 21 ((a * 3) + 0).toNatClampNeg) = 8) then (8 : Int32) else (S 21 ((a * 3) + 1).toNatClampNeg)) = 8) then (8 : Int32) else (S 21 ((a * 3) + 2).toNatClampNeg)) b (if (2 = 0) then ((c / 36) : Int32) else (if (2 = 1) then ((zrem (c / 6) 6) : Int32) else (zrem c 6))) S)))))
set_option maxRecDepth 100000 in
theorem f66 {L : Nat} (a b c : Int32) (S : zS) (g0 : zx 120 ((a * 3) + 0)) (g1 : (¬ ((F67 (S 21 ((a * 3) + 0).toNatClampNeg) b (if (0 = 0) then ((c / 36) : Int32) else (if (0 = 1) then ((zrem (c / 6) 6) : Int32) else (zrem c 6))) S) = 4)) → (¬ ((S 21 ((a * 3) + 0).toNatClampNeg) = 8)) → zx 120 ((a * 3) + 1)) (g2 : (¬ ((F67 (S 21 ((a * 3) + 0).toNatClampNeg) b (if (0 = 0) then ((c / 36) : Int32) else (if (0 = 1) then ((zrem (c / 6) 6) : Int32) else (zrem c 6))) S) = 4)) → (¬ ((F67 (if ((S 21 ((a * 3) + 0).toNatClampNeg) = 8) then (8 : Int32) else (S 21 ((a * 3) + 1).toNatClampNeg)) b (if (1 = 0) then ((c / 36) : Int32) else (if (1 = 1) then ((zrem (c / 6) 6) : Int32) else (zrem c 6))) S) = 4)) → (¬ ((if ((S 21 ((a * 3) + 0).toNatClampNeg) = 8) then (8 : Int32) else (S 21 ((a * 3) + 1).toNatClampNeg)) = 8)) → zx 120 ((a * 3) + 2)) : zf L 66 [.inr (.inr 4), .inl a, .inl b, .inl c] S (.inl (some (.inl (F66 a b c S))), S, 0) := zf_of (en_66 _ _ _ _) (zr_0 i66_0 kc_0 (zr_3_4 i66_1 (zr_0 i66_2 kc_0 (zr_3_5 i66_3 (zr_0 i66_4 kc_0 (zr_3_6 i66_5 (zr_1_6 i66_6 (zr_0 i66_7 kc_3 (zr_19f_3 i66_8 (by decide) (zr_1_5 i66_9 (zr_18t_0 i66_10 (by decide) (zr_2_0 i66_13 (zr_6r i66_14 fl_4_1 (zr_1_1 i66_15 (zr_0 i66_16 kc_3 (zr_13_2 i66_17 (zr_1_6 i66_18 (zr_13_0 i66_19 (zr_8 i66_20 ar_21 (g0) rfl rfl (zr_3_7 i66_21 (zr_1_7 i66_22 (zr_1_2 i66_23 (zr_1_3 i66_24 (zr_1_6 i66_25 (zr_cv (zs_22_2 i66_26 na_68 rfl) (f68 c 0 S ) (zr_cv (zs_22_3 i66_27 na_67 rfl) (f67 (S 21 ((a * 3) + 0).toNatClampNeg) b (if (0 = 0) then ((c / 36) : Int32) else (if (0 = 1) then ((zrem (c / 6) 6) : Int32) else (zrem c 6))) S ) (zr_3_8 i66_28 (zr_1_8 i66_29 (zr_0 i66_30 kc_4 (zt_cast (zr_19_1 i66_31 (fun h683 => zr_0 i66_32 kc_64 (zr_25 i66_33)) (fun h684 => zr_1_4 i66_34 (zr_0 i66_35 kc_4 (zr_13_2 i66_36 (zr_1_8 i66_37 (zr_13_0 i66_38 (zr_3_4 i66_39 (zr_1_7 i66_40 (zr_0 i66_41 kc_8 (zt_trans (zt_cast (zr_19_1 i66_42 (fun h685 => zr_0 i66_43 kc_1 (zr_17 i66_44 (zt_rfl))) (fun h686 => zr_0 i66_45 kc_0 (zt_rfl))) (zm_c zz_s (zl_c (zl_t zz_10) zz_s) zz_s)) (zr_3_5 i66_46 (zr_5c_6 i66_47 kc_1 ka_0_1 (zr_17 i66_48 (zr_1_6 i66_6 (zr_0 i66_7 kc_3 (zr_19f_3 i66_8 (by decide) (zr_1_5 i66_9 (zt_trans (zt_cast (zr_18b_0 i66_10 (fun h687 => zr_0 i66_11 kc_8 (zr_17 i66_12 (zt_rfl))) (fun h688 => zr_2_0 i66_13 (zr_6r i66_14 fl_4_1 (zr_1_1 i66_15 (zr_0 i66_16 kc_3 (zr_13_2 i66_17 (zr_1_6 i66_18 (zr_13_0 i66_19 (zr_8 i66_20 ar_21 (g1 h684 h688) rfl rfl (zt_rfl)))))))))) (zm_c zz_s (zl_c (zl_t zz_e) zz_s) zz_s)) (zr_3_7 i66_21 (zr_1_7 i66_22 (zr_1_2 i66_23 (zr_1_3 i66_24 (zr_1_6 i66_25 (zr_cv (zs_22_2 i66_26 na_68 rfl) (f68 c 1 S ) (zr_cv (zs_22_3 i66_27 na_67 rfl) (f67 (if ((S 21 ((a * 3) + 0).toNatClampNeg) = 8) then (8 : Int32) else (S 21 ((a * 3) + 1).toNatClampNeg)) b (if (1 = 0) then ((c / 36) : Int32) else (if (1 = 1) then ((zrem (c / 6) 6) : Int32) else (zrem c 6))) S ) (zr_3_8 i66_28 (zr_1_8 i66_29 (zr_0 i66_30 kc_4 (zt_cast (zr_19_1 i66_31 (fun h689 => zr_0 i66_32 kc_64 (zr_25 i66_33)) (fun h690 => zr_1_4 i66_34 (zr_0 i66_35 kc_4 (zr_13_2 i66_36 (zr_1_8 i66_37 (zr_13_0 i66_38 (zr_3_4 i66_39 (zr_1_7 i66_40 (zr_0 i66_41 kc_8 (zt_trans (zt_cast (zr_19_1 i66_42 (fun h691 => zr_0 i66_43 kc_1 (zr_17 i66_44 (zt_rfl))) (fun h692 => zr_0 i66_45 kc_0 (zt_rfl))) (zm_c zz_s (zl_c (zl_t zz_10) zz_s) zz_s)) (zr_3_5 i66_46 (zr_5c_6 i66_47 kc_1 ka_1_1 (zr_17 i66_48 (zr_1_6 i66_6 (zr_0 i66_7 kc_3 (zr_19f_3 i66_8 (by decide) (zr_1_5 i66_9 (zt_trans (zt_cast (zr_18b_0 i66_10 (fun h693 => zr_0 i66_11 kc_8 (zr_17 i66_12 (zt_rfl))) (fun h694 => zr_2_0 i66_13 (zr_6r i66_14 fl_4_1 (zr_1_1 i66_15 (zr_0 i66_16 kc_3 (zr_13_2 i66_17 (zr_1_6 i66_18 (zr_13_0 i66_19 (zr_8 i66_20 ar_21 (g2 h684 h690 h694) rfl rfl (zt_rfl)))))))))) (zm_c zz_s (zl_c (zl_t zz_e) zz_s) zz_s)) (zr_3_7 i66_21 (zr_1_7 i66_22 (zr_1_2 i66_23 (zr_1_3 i66_24 (zr_1_6 i66_25 (zr_cv (zs_22_2 i66_26 na_68 rfl) (f68 c 2 S ) (zr_cv (zs_22_3 i66_27 na_67 rfl) (f67 (if ((if ((S 21 ((a * 3) + 0).toNatClampNeg) = 8) then (8 : Int32) else (S 21 ((a * 3) + 1).toNatClampNeg)) = 8) then (8 : Int32) else (S 21 ((a * 3) + 2).toNatClampNeg)) b (if (2 = 0) then ((c / 36) : Int32) else (if (2 = 1) then ((zrem (c / 6) 6) : Int32) else (zrem c 6))) S ) (zr_3_8 i66_28 (zr_1_8 i66_29 (zr_0 i66_30 kc_4 (zt_cast (zr_19_1 i66_31 (fun h695 => zr_0 i66_32 kc_64 (zr_25 i66_33)) (fun h696 => zr_1_4 i66_34 (zr_0 i66_35 kc_4 (zr_13_2 i66_36 (zr_1_8 i66_37 (zr_13_0 i66_38 (zr_3_4 i66_39 (zr_1_7 i66_40 (zr_0 i66_41 kc_8 (zt_trans (zt_cast (zr_19_1 i66_42 (fun h697 => zr_0 i66_43 kc_1 (zr_17 i66_44 (zt_rfl))) (fun h698 => zr_0 i66_45 kc_0 (zt_rfl))) (zm_c zz_s (zl_c (zl_t zz_10) zz_s) zz_s)) (zr_3_5 i66_46 (zr_5c_6 i66_47 kc_1 ka_2_1 (zr_17 i66_48 (zr_1_6 i66_6 (zr_0 i66_7 kc_3 (zr_19t_3 i66_8 (by decide) (zr_1_4 i66_49 (zr_25 i66_50)))))))))))))))))) (zm_r zz_e zz_s)))))))))))))))))))))))))))))) (zm_r zz_e zz_s)))))))))))))))))))))))))))))) (zm_r zz_e zz_s)))))))))))))))))))))))))))))))
