/-! the methods with loops, and what calls them (wip/whole/gen/gen18.py) -/
theorem i102_0 : zi 102 0 1 1 4 0 := by decide +kernel
theorem i102_1 : zi 102 1 2 18 6 3 := by decide +kernel
theorem i102_6 : zi 102 6 7 1 4 0 := by decide +kernel
theorem i102_2 : zi 102 2 3 0 0 60000 := by decide +kernel
theorem kc_60000 : Int32.ofInt 60000 = 60000 := by decide +kernel
theorem i102_3 : zi 102 3 4 1 4 0 := by decide +kernel
theorem i102_4 : zi 102 4 5 13 0 0 := by decide +kernel
theorem i102_5 : zi 102 5 6 17 7 0 := by decide +kernel
theorem i102_7 : zi 102 7 8 3 5 0 := by decide +kernel
theorem i102_8 : zi 102 8 9 0 0 7 := by decide +kernel
theorem i102_9 : zi 102 9 10 1 1 0 := by decide +kernel
theorem i102_10 : zi 102 10 11 13 2 0 := by decide +kernel
theorem i102_11 : zi 102 11 12 1 2 0 := by decide +kernel
theorem i102_12 : zi 102 12 13 13 0 0 := by decide +kernel
theorem i102_13 : zi 102 13 14 0 0 1000 := by decide +kernel
theorem i102_14 : zi 102 14 15 1 3 0 := by decide +kernel
theorem i102_15 : zi 102 15 16 22 103 0 := by decide +kernel
theorem na_103 : z_na 103 = 1 := by decide +kernel
theorem i102_16 : zi 102 16 17 13 2 0 := by decide +kernel
theorem i102_17 : zi 102 17 18 13 0 0 := by decide +kernel
theorem i102_18 : zi 102 18 19 3 6 0 := by decide +kernel
theorem i102_19 : zi 102 19 20 0 0 0 := by decide +kernel
theorem i102_20 : zi 102 20 21 3 7 0 := by decide +kernel
theorem i102_21 : zi 102 21 22 1 7 0 := by decide +kernel
theorem i102_22 : zi 102 22 23 0 0 3 := by decide +kernel
theorem i102_23 : zi 102 23 24 19 57 3 := by decide +kernel
theorem i102_24 : zi 102 24 25 2 0 0 := by decide +kernel
theorem i102_25 : zi 102 25 26 6 8 0 := by decide +kernel
theorem i102_26 : zi 102 26 27 1 7 0 := by decide +kernel
theorem i102_27 : zi 102 27 28 9 0 0 := by decide +kernel
theorem i102_28 : zi 102 28 29 18 55 0 := by decide +kernel
theorem i102_29 : zi 102 29 30 2 0 0 := by decide +kernel
theorem i102_30 : zi 102 30 31 6 8 1 := by decide +kernel
theorem i102_31 : zi 102 31 32 1 7 0 := by decide +kernel
theorem i102_32 : zi 102 32 33 9 0 0 := by decide +kernel
theorem i102_33 : zi 102 33 34 18 55 1 := by decide +kernel
theorem i102_34 : zi 102 34 35 2 0 0 := by decide +kernel
theorem i102_35 : zi 102 35 36 6 8 3 := by decide +kernel
theorem i102_36 : zi 102 36 37 1 7 0 := by decide +kernel
theorem i102_37 : zi 102 37 38 0 0 31 := by decide +kernel
theorem kc_31 : Int32.ofInt 31 = 31 := by decide +kernel
theorem i102_38 : zi 102 38 39 2 0 0 := by decide +kernel
theorem i102_39 : zi 102 39 40 6 8 3 := by decide +kernel
theorem i102_40 : zi 102 40 41 1 7 0 := by decide +kernel
theorem i102_41 : zi 102 41 42 8 0 0 := by decide +kernel
theorem i102_42 : zi 102 42 43 13 2 0 := by decide +kernel
theorem i102_43 : zi 102 43 44 1 6 0 := by decide +kernel
theorem i102_44 : zi 102 44 45 13 0 0 := by decide +kernel
theorem i102_45 : zi 102 45 46 1 5 0 := by decide +kernel
theorem i102_46 : zi 102 46 47 2 0 0 := by decide +kernel
theorem i102_47 : zi 102 47 48 6 8 2 := by decide +kernel
theorem i102_48 : zi 102 48 49 1 7 0 := by decide +kernel
theorem i102_49 : zi 102 49 50 8 0 0 := by decide +kernel
theorem i102_50 : zi 102 50 51 13 2 0 := by decide +kernel
theorem i102_51 : zi 102 51 52 13 0 0 := by decide +kernel
theorem i102_52 : zi 102 52 53 0 0 65521 := by decide +kernel
theorem kc_65521 : Int32.ofInt 65521 = 65521 := by decide +kernel
theorem i102_53 : zi 102 53 54 13 4 0 := by decide +kernel
theorem nz_65521 : ¬ (65521 : Int32) = 0 := by decide
theorem i102_54 : zi 102 54 55 10 0 0 := by decide +kernel
theorem i102_55 : zi 102 55 56 5 7 1 := by decide +kernel
theorem i102_56 : zi 102 56 57 17 21 0 := by decide +kernel
theorem i102_57 : zi 102 57 58 27 0 0 := by decide +kernel
theorem ml_102 : z_ml 102 = 8 := by decide +kernel
theorem en_102 : ∀ (v0 v1 v2 v3 v4 : zV), z_ent 102 [v0, v1, v2, v3, v4] = [some v0, some v1, some v2, some v3, some v4, none, none, none] := fun v0 v1 v2 v3 v4 => by unfold z_ent; rw [ml_102]; rfl
set_option maxRecDepth 100000 in
theorem s102_21 {L : Nat} (x1 x2 x3 x4 x5 x6 x7 : Int32) (S : zS) (g0 : (¬ (3 ≤ x7)) → zx 3 x7) : zt L 102 21 [some (.inr (.inr 12)), some (.inl x1), some (.inl x2), some (.inl x3), some (.inl x4), some (.inl x5), some (.inl x6), some (.inl x7)] [] S (if (3 ≤ x7) then (.inl (57, [some (.inr (.inr 12)), some (.inl x1), some (.inl x2), some (.inl x3), some (.inl x4), some (.inl x5), some (.inl x6), some (.inl x7)], [], S)) else (.inl (21, [some (.inr (.inr 12)), some (.inl x1), some (.inl x2), some (.inl x3), some (.inl x4), some (.inl x5), some (.inl x6), some (.inl (x7 + 1))], [], (if ((S 77 x7.toNatClampNeg) = 0) then S else (if ((S 78 x7.toNatClampNeg) = 0) then (z_up S 80 x7.toNatClampNeg (zrem (((31 * (S 80 x7.toNatClampNeg)) + x6) + (x5 * (S 79 x7.toNatClampNeg))) 65521)) else S))))) := zr_1_7 i102_21 (zr_0 i102_22 kc_3 (zr_19_3 i102_23 (fun h1334 => zt_rfl) (fun h1335 => zr_2_0 i102_24 (zr_6r i102_25 fl_12_0 (zr_1_7 i102_26 (zr_9 i102_27 ar_77 (g0 h1335) rfl rfl (zt_trans (zt_cast (zr_18_0 i102_28 (fun h1336 => zt_rfl) (fun h1337 => zr_2_0 i102_29 (zr_6r i102_30 fl_12_1 (zr_1_7 i102_31 (zr_9 i102_32 ar_78 (g0 h1335) rfl rfl (zt_cast (zr_18_1 i102_33 (fun h1338 => zr_2_0 i102_34 (zr_6r i102_35 fl_12_3 (zr_1_7 i102_36 (zr_0 i102_37 kc_31 (zr_2_0 i102_38 (zr_6r i102_39 fl_12_3 (zr_1_7 i102_40 (zr_8 i102_41 ar_80 (g0 h1335) rfl rfl (zr_13_2 i102_42 (zr_1_6 i102_43 (zr_13_0 i102_44 (zr_1_5 i102_45 (zr_2_0 i102_46 (zr_6r i102_47 fl_12_2 (zr_1_7 i102_48 (zr_8 i102_49 ar_79 (g0 h1335) rfl rfl (zr_13_2 i102_50 (zr_13_0 i102_51 (zr_0 i102_52 kc_65521 (zr_13_4 i102_53 nz_65521 (zr_10 i102_54 ar_80 (g0 h1335) rfl (zt_rfl)))))))))))))))))))))) (fun h1339 => zt_rfl)) (zm_c zz_s zz_s zz_e))))))) (zm_c zz_s zz_s zz_e)) (zr_5_7 i102_55 kc_1 (zr_17 i102_56 (zt_rfl))))))))))
def k102_21 (x1 x2 x3 x4 x5 x6 : Int32) (j : Nat) (a : zS) : zS := (if ((a 77 j) = 0) then a else (if ((a 78 j) = 0) then (z_up a 80 j (zrem (((31 * (a 80 j)) + x6) + (x5 * (a 79 j))) 65521)) else a))
set_option maxRecDepth 100000 in
theorem l102_21 {L : Nat} (x1 x2 x3 x4 x5 x6 : Int32) (i0 n : Nat) (a : zS) (hn : i0 + n < 2147483648) (hc0 : ∀ j, j < n → ¬ (3 ≤ (Int32.ofNat (i0 + j)))) (g0 : ∀ j, j < n → (¬ (3 ≤ (Int32.ofNat (i0 + j)))) → zx 3 (Int32.ofNat (i0 + j))) : zt L 102 21 [some (.inr (.inr 12)), some (.inl x1), some (.inl x2), some (.inl x3), some (.inl x4), some (.inl x5), some (.inl x6), some (.inl (Int32.ofNat i0))] [] a (.inl (21, [some (.inr (.inr 12)), some (.inl x1), some (.inl x2), some (.inl x3), some (.inl x4), some (.inl x5), some (.inl x6), some (.inl (Int32.ofNat (i0 + n)))], [], (zfold (k102_21 x1 x2 x3 x4 x5 x6 ) i0 n a))) := by
  induction n with
  | zero => exact zt_rfl
  | succ n ih =>
    have e1 := zk_ix (i0 + n) (by omega)
    have e2 := zk_add (i0 + n)
    refine zt_trans (ih (by omega) (fun j hj => hc0 j (by omega)) (fun j hj => g0 j (by omega))) ?_
    refine zt_cast (s102_21 x1 x2 x3 x4 x5 x6 (Int32.ofNat (i0 + n)) (zfold (k102_21 x1 x2 x3 x4 x5 x6 ) i0 n a) (by have hg := g0 n (by omega); first | exact hg | (simp only [e1]; exact hg))) ?_
    rw [if_neg (show ¬ (3 ≤ (Int32.ofNat (i0 + n))) from (by have hg := hc0 n (by omega); first | exact hg | (simp only [e1]; exact hg)))]
    simp only [zfold, k102_21, e1, e2, ← Nat.add_assoc]
def K102_21 (x1 x2 x3 x4 x5 x6 : Int32) (i0 : Nat) (S : zS) : zS := zfold (k102_21 x1 x2 x3 x4 x5 x6 ) i0 (3 - i0) S
def K102_21_S (x1 x2 x3 x4 x5 x6 : Int32) (i0 : Nat) (S : zS) : zS := (K102_21 x1 x2 x3 x4 x5 x6 i0 S)
set_option maxRecDepth 100000 in
theorem L102_21 {L : Nat} (x1 x2 x3 x4 x5 x6 : Int32) (i0 : Nat) (S : zS) (hi : i0 ≤ 10000) : zt L 102 21 [some (.inr (.inr 12)), some (.inl x1), some (.inl x2), some (.inl x3), some (.inl x4), some (.inl x5), some (.inl x6), some (.inl (Int32.ofNat i0))] [] S (.inl (57, [some (.inr (.inr 12)), some (.inl x1), some (.inl x2), some (.inl x3), some (.inl x4), some (.inl x5), some (.inl x6), some (.inl (Int32.ofNat (i0 + (3 - i0))))], [], (K102_21_S x1 x2 x3 x4 x5 x6 i0 S))) := by
  have hend : 3 ≤ Int32.ofNat (i0 + (3 - i0)) := by exact zc_le_end (show zn 3 3 from by unfold zn; decide) (by omega)
  refine zt_trans (l102_21 x1 x2 x3 x4 x5 x6   i0 (3 - i0) S (by omega) (fun j hj => by exact zc_le (show zn 3 3 from by unfold zn; decide) hj (by omega)) (fun j hj _ => by exact zx_of (by omega) (by omega))) ?_
  exact zt_cast (s102_21 x1 x2 x3 x4 x5 x6 (Int32.ofNat (i0 + (3 - i0))) (zfold (k102_21 x1 x2 x3 x4 x5 x6 ) i0 (3 - i0) S) (fun h9 => absurd hend h9)) (if_pos hend)
def G102 (a b c d : Int32) (S : zS) : zS := (K102_21_S a b c d (if (0 ≤ d) then (d : Int32) else (60000 + d)) (((7 * a) + b) + (1000 * (if (c.toInt = 2) then (1 : Int32) else (if (c.toInt = 4) then (2 : Int32) else (if (c.toInt = 8) then (3 : Int32) else 0))))) 0 S)
set_option maxRecDepth 100000 in
theorem f102 {L : Nat} (a b c d : Int32) (S : zS) : zf L 102 [.inr (.inr 12), .inl a, .inl b, .inl c, .inl d] S (.inl none, (G102 a b c d S), 0) := zf_of (en_102 _ _ _ _ _) (zr_1_4 i102_0 (zt_trans (zt_cast (zr_18_3 i102_1 (fun h1340 => zr_1_4 i102_6 (zt_rfl)) (fun h1341 => zr_0 i102_2 kc_60000 (zr_1_4 i102_3 (zr_13_0 i102_4 (zr_17 i102_5 (zt_rfl)))))) (zm_c zz_s (zl_c (zl_t zz_e) zz_s) zz_s)) (zr_3_5 i102_7 (zr_0 i102_8 kc_7 (zr_1_1 i102_9 (zr_13_2 i102_10 (zr_1_2 i102_11 (zr_13_0 i102_12 (zr_0 i102_13 kc_1000 (zr_1_3 i102_14 (zr_cv (zs_22_1 i102_15 na_103 rfl) (f103 c S ) (zr_13_2 i102_16 (zr_13_0 i102_17 (zr_3_6 i102_18 (zr_0 i102_19 kc_0 (zr_3_7 i102_20 (zt_trans (L102_21 a b c d (if (0 ≤ d) then (d : Int32) else (60000 + d)) (((7 * a) + b) + (1000 * (if (c.toInt = 2) then (1 : Int32) else (if (c.toInt = 4) then (2 : Int32) else (if (c.toInt = 8) then (3 : Int32) else 0))))) 0 S (by decide) ) (zr_27 i102_57))))))))))))))))))
