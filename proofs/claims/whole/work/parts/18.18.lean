/-! the methods with loops, and what calls them (wip/whole/gen/gen18.py) -/
theorem i265_0 : zi 265 0 1 2 0 0 := by decide +kernel
theorem i265_1 : zi 265 1 2 2 0 0 := by decide +kernel
theorem i265_2 : zi 265 2 3 1 1 0 := by decide +kernel
theorem i265_3 : zi 265 3 4 21 258 12 := by decide +kernel
theorem i265_4 : zi 265 4 5 18 7 0 := by decide +kernel
theorem i265_5 : zi 265 5 6 0 0 0 := by decide +kernel
theorem i265_6 : zi 265 6 7 17 8 0 := by decide +kernel
theorem i265_7 : zi 265 7 8 0 0 1 := by decide +kernel
theorem i265_8 : zi 265 8 9 21 212 12 := by decide +kernel
theorem i265_9 : zi 265 9 10 18 14 0 := by decide +kernel
theorem i265_10 : zi 265 10 11 2 0 0 := by decide +kernel
theorem i265_11 : zi 265 11 12 1 1 0 := by decide +kernel
theorem i265_12 : zi 265 12 13 21 264 12 := by decide +kernel
theorem na_264 : z_na 264 = 1 := by decide +kernel
theorem i265_13 : zi 265 13 14 17 15 0 := by decide +kernel
theorem i265_14 : zi 265 14 15 0 0 0 := by decide +kernel
theorem i265_15 : zi 265 15 16 25 0 0 := by decide +kernel
theorem ml_265 : z_ml 265 = 2 := by decide +kernel
theorem en_265 : ∀ (v0 v1 : zV), z_ent 265 [v0, v1] = [some v0, some v1] := fun v0 v1 => by unfold z_ent; rw [ml_265]; rfl
theorem i268_0 : zi 268 0 1 2 0 0 := by decide +kernel
theorem i268_1 : zi 268 1 2 2 0 0 := by decide +kernel
theorem i268_2 : zi 268 2 3 1 1 0 := by decide +kernel
theorem i268_3 : zi 268 3 4 21 258 12 := by decide +kernel
theorem i268_4 : zi 268 4 5 18 7 1 := by decide +kernel
theorem i268_7 : zi 268 7 8 1 2 0 := by decide +kernel
theorem i268_8 : zi 268 8 9 0 0 0 := by decide +kernel
theorem i268_9 : zi 268 9 10 0 0 215 := by decide +kernel
theorem i268_10 : zi 268 10 11 22 213 0 := by decide +kernel
theorem i268_11 : zi 268 11 12 18 14 0 := by decide +kernel
theorem i268_12 : zi 268 12 13 0 0 0 := by decide +kernel
theorem i268_13 : zi 268 13 14 17 15 0 := by decide +kernel
theorem i268_14 : zi 268 14 15 0 0 2 := by decide +kernel
theorem i268_5 : zi 268 5 6 0 0 1 := by decide +kernel
theorem i268_6 : zi 268 6 7 17 15 0 := by decide +kernel
theorem i268_15 : zi 268 15 16 21 212 12 := by decide +kernel
theorem i268_16 : zi 268 16 17 18 22 0 := by decide +kernel
theorem i268_17 : zi 268 17 18 2 0 0 := by decide +kernel
theorem i268_18 : zi 268 18 19 1 1 0 := by decide +kernel
theorem i268_19 : zi 268 19 20 1 2 0 := by decide +kernel
theorem i268_20 : zi 268 20 21 21 257 12 := by decide +kernel
theorem na_257 : z_na 257 = 2 := by decide +kernel
theorem i268_21 : zi 268 21 22 17 23 0 := by decide +kernel
theorem i268_22 : zi 268 22 23 0 0 0 := by decide +kernel
theorem i268_23 : zi 268 23 24 25 0 0 := by decide +kernel
theorem ml_268 : z_ml 268 = 3 := by decide +kernel
theorem en_268 : ∀ (v0 v1 v2 : zV), z_ent 268 [v0, v1, v2] = [some v0, some v1, some v2] := fun v0 v1 v2 => by unfold z_ent; rw [ml_268]; rfl
theorem i276_0 : zi 276 0 1 2 0 0 := by decide +kernel
theorem i276_1 : zi 276 1 2 1 1 0 := by decide +kernel
theorem i276_2 : zi 276 2 3 0 0 0 := by decide +kernel
theorem i276_3 : zi 276 3 4 0 0 5 := by decide +kernel
theorem i276_4 : zi 276 4 5 22 213 0 := by decide +kernel
theorem i276_5 : zi 276 5 6 18 13 0 := by decide +kernel
theorem i276_6 : zi 276 6 7 1 2 0 := by decide +kernel
theorem i276_7 : zi 276 7 8 0 0 (-1) := by decide +kernel
theorem i276_8 : zi 276 8 9 0 0 5 := by decide +kernel
theorem i276_9 : zi 276 9 10 22 213 0 := by decide +kernel
theorem i276_10 : zi 276 10 11 18 13 0 := by decide +kernel
theorem i276_11 : zi 276 11 12 0 0 0 := by decide +kernel
theorem i276_12 : zi 276 12 13 17 14 0 := by decide +kernel
theorem i276_13 : zi 276 13 14 0 0 1 := by decide +kernel
theorem i276_14 : zi 276 14 15 21 212 12 := by decide +kernel
theorem i276_15 : zi 276 15 16 18 18 1 := by decide +kernel
theorem i276_18 : zi 276 18 19 2 0 0 := by decide +kernel
theorem i276_19 : zi 276 19 20 1 1 0 := by decide +kernel
theorem i276_20 : zi 276 20 21 1 2 0 := by decide +kernel
theorem i276_21 : zi 276 21 22 21 271 12 := by decide +kernel
theorem i276_22 : zi 276 22 23 25 0 0 := by decide +kernel
theorem i276_16 : zi 276 16 17 0 0 0 := by decide +kernel
theorem i276_17 : zi 276 17 18 25 0 0 := by decide +kernel
theorem ml_276 : z_ml 276 = 3 := by decide +kernel
theorem en_276 : ∀ (v0 v1 v2 : zV), z_ent 276 [v0, v1, v2] = [some v0, some v1, some v2] := fun v0 v1 v2 => by unfold z_ent; rw [ml_276]; rfl
theorem i281_0 : zi 281 0 1 2 0 0 := by decide +kernel
theorem i281_1 : zi 281 1 2 1 1 0 := by decide +kernel
theorem i281_2 : zi 281 2 3 22 279 0 := by decide +kernel
theorem i281_3 : zi 281 3 4 18 6 0 := by decide +kernel
theorem i281_4 : zi 281 4 5 0 0 0 := by decide +kernel
theorem i281_5 : zi 281 5 6 17 7 0 := by decide +kernel
theorem i281_6 : zi 281 6 7 0 0 1 := by decide +kernel
theorem i281_7 : zi 281 7 8 21 212 12 := by decide +kernel
theorem i281_8 : zi 281 8 9 18 11 1 := by decide +kernel
theorem i281_11 : zi 281 11 12 2 0 0 := by decide +kernel
theorem i281_12 : zi 281 12 13 6 12 67 := by decide +kernel
theorem i281_13 : zi 281 13 14 1 1 0 := by decide +kernel
theorem i281_14 : zi 281 14 15 8 0 0 := by decide +kernel
theorem i281_15 : zi 281 15 16 3 2 0 := by decide +kernel
theorem i281_16 : zi 281 16 17 0 0 0 := by decide +kernel
theorem i281_17 : zi 281 17 18 3 3 0 := by decide +kernel
theorem i281_9 : zi 281 9 10 0 0 0 := by decide +kernel
theorem i281_10 : zi 281 10 11 25 0 0 := by decide +kernel
theorem i281_18 : zi 281 18 19 1 3 0 := by decide +kernel
theorem i281_19 : zi 281 19 20 2 0 0 := by decide +kernel
theorem i281_20 : zi 281 20 21 6 12 57 := by decide +kernel
theorem i281_21 : zi 281 21 22 19 42 3 := by decide +kernel
theorem i281_22 : zi 281 22 23 1 2 0 := by decide +kernel
theorem i281_23 : zi 281 23 24 2 0 0 := by decide +kernel
theorem i281_24 : zi 281 24 25 6 12 60 := by decide +kernel
theorem i281_25 : zi 281 25 26 1 3 0 := by decide +kernel
theorem i281_26 : zi 281 26 27 8 0 0 := by decide +kernel
theorem i281_27 : zi 281 27 28 1 1 0 := by decide +kernel
theorem i281_28 : zi 281 28 29 19 37 1 := by decide +kernel
theorem i281_29 : zi 281 29 30 2 0 0 := by decide +kernel
theorem i281_30 : zi 281 30 31 6 12 63 := by decide +kernel
theorem i281_31 : zi 281 31 32 1 3 0 := by decide +kernel
theorem i281_32 : zi 281 32 33 8 0 0 := by decide +kernel
theorem i281_33 : zi 281 33 34 0 0 2 := by decide +kernel
theorem i281_34 : zi 281 34 35 19 37 0 := by decide +kernel
theorem i281_37 : zi 281 37 38 0 0 0 := by decide +kernel
theorem i281_35 : zi 281 35 36 0 0 1 := by decide +kernel
theorem i281_36 : zi 281 36 37 17 38 0 := by decide +kernel
theorem i281_38 : zi 281 38 39 13 0 0 := by decide +kernel
theorem i281_39 : zi 281 39 40 3 2 0 := by decide +kernel
theorem i281_40 : zi 281 40 41 5 3 1 := by decide +kernel
theorem i281_41 : zi 281 41 42 17 18 0 := by decide +kernel
theorem i281_42 : zi 281 42 43 1 2 0 := by decide +kernel
theorem i281_43 : zi 281 43 44 25 0 0 := by decide +kernel
theorem ml_281 : z_ml 281 = 4 := by decide +kernel
theorem en_281 : ∀ (v0 v1 : zV), z_ent 281 [v0, v1] = [some v0, some v1, none, none] := fun v0 v1 => by unfold z_ent; rw [ml_281]; rfl
def F265 (a : Int32) (S : zS) : Int32 := (if ((zb (¬ ((¬ (a < 0)) ∧ (¬ (((S 13 45) - 1) < a))))) = 0) then ((K264_18_c2 a (zb (((z_up S 13 0 (zb (¬ ((¬ (a < 0)) ∧ (¬ (((S 13 45) - 1) < a)))))) 119 a.toNatClampNeg) = 0)) (a + 1).toNatClampNeg (z_up (z_up S 13 0 (zb (¬ ((¬ (a < 0)) ∧ (¬ (((S 13 45) - 1) < a)))))) 119 a.toNatClampNeg 1)) : Int32) else 0)
def G265 (a : Int32) (S : zS) : zS := (if ((zb (¬ ((¬ (a < 0)) ∧ (¬ (((S 13 45) - 1) < a))))) = 0) then (G264 a (z_up S 13 0 (zb (¬ ((¬ (a < 0)) ∧ (¬ (((S 13 45) - 1) < a))))))) else (z_up S 13 0 (zb (¬ ((¬ (a < 0)) ∧ (¬ (((S 13 45) - 1) < a)))))))
set_option maxRecDepth 100000 in
theorem f265 {L : Nat} (a : Int32) (S : zS) (g0 : ((zb (¬ ((¬ (a < 0)) ∧ (¬ (((S 13 45) - 1) < a))))) = 0) → zx 40 a) (g1 : zn 40 (S 13 45)) (g2 : zPa 40 40 (S 110)) (g3 : ((zb (¬ ((¬ (a < 0)) ∧ (¬ (((S 13 45) - 1) < a))))) = 0) → zn 10000 (a + 1)) (g4 : zn 40 (S 13 57)) (g5 : zA 40 40 (S 120)) (g6 : zA 40 3 (S 122)) : zf L 265 [.inr (.inr 13), .inl a] S (.inl (some (.inl (F265 a S))), (G265 a S), 0) := zf_of (en_265 _ _) (zr_2_0 i265_0 (zr_2_0 i265_1 (zr_1_1 i265_2 (zr_cv (zs_21_1 i265_3 na_258 ob_13 rfl) (f258 a S ) (zt_trans (zt_cast (zr_18b_0 i265_4 (fun h2738 => zr_0 i265_5 kc_0 (zr_17 i265_6 (zt_rfl))) (fun h2739 => zr_0 i265_7 kc_1 (zt_rfl))) (zm_c zz_s (zl_c (zl_t zz_01) zz_s) zz_s)) (zr_cv (zs_21_1 i265_8 na_212 ob_13 rfl) (f212 (zb (¬ ((¬ (a < 0)) ∧ (¬ (((S 13 45) - 1) < a))))) S ) (zt_trans (zt_cast (zr_18b_0 i265_9 (fun h2740 => zr_2_0 i265_10 (zr_1_1 i265_11 (zr_cv (zs_21_1 i265_12 na_264 ob_13 rfl) (f264 a (z_up S 13 0 (zb (¬ ((¬ (a < 0)) ∧ (¬ (((S 13 45) - 1) < a)))))) (g0 h2740) (znv (zupf rfl) (g1)) (zpc1 (zupc rfl) (g2)) (g3 h2740) (znv (zupf rfl) (g4)) (zpc1 (zupc rfl) (g5)) (zpc1 (zupc rfl) (g6))) (zr_17 i265_13 (zt_rfl))))) (fun h2741 => zr_0 i265_14 kc_0 (zt_rfl))) (zm_c zz_s (zl_c (zl_t zz_e) zz_s) zz_e)) (zr_25 i265_15))))))))
def F268 (a b : Int32) (S : zS) : Int32 := (if ((if ((¬ (a < 0)) ∧ (¬ (((S 13 45) - 1) < a))) then ((if ((¬ (b < 0)) ∧ (¬ (215 < b))) then (0 : Int32) else 2) : Int32) else 1) = 0) then ((F257 a b (z_up S 13 0 (if ((¬ (a < 0)) ∧ (¬ (((S 13 45) - 1) < a))) then ((if ((¬ (b < 0)) ∧ (¬ (215 < b))) then (0 : Int32) else 2) : Int32) else 1))) : Int32) else 0)
set_option maxRecDepth 100000 in
theorem f268 {L : Nat} (a b : Int32) (S : zS) (g0 : ((if ((¬ (a < 0)) ∧ (¬ (((S 13 45) - 1) < a))) then ((if ((¬ (b < 0)) ∧ (¬ (215 < b))) then (0 : Int32) else 2) : Int32) else 1) = 0) → zx 40 a) (g1 : ((if ((¬ (a < 0)) ∧ (¬ (((S 13 45) - 1) < a))) then ((if ((¬ (b < 0)) ∧ (¬ (215 < b))) then (0 : Int32) else 2) : Int32) else 1) = 0) → (¬ (((z_up S 13 0 (if ((¬ (a < 0)) ∧ (¬ (((S 13 45) - 1) < a))) then ((if ((¬ (b < 0)) ∧ (¬ (215 < b))) then (0 : Int32) else 2) : Int32) else 1)) 111 a.toNatClampNeg) = (-1))) → zx 8 (S 111 a.toNatClampNeg)) : zf L 268 [.inr (.inr 13), .inl a, .inl b] S (.inl (some (.inl (F268 a b S))), (z_up S 13 0 (if ((¬ (a < 0)) ∧ (¬ (((S 13 45) - 1) < a))) then ((if ((¬ (b < 0)) ∧ (¬ (215 < b))) then (0 : Int32) else 2) : Int32) else 1)), 0) := zf_of (en_268 _ _ _) (zr_2_0 i268_0 (zr_2_0 i268_1 (zr_1_1 i268_2 (zr_cv (zs_21_1 i268_3 na_258 ob_13 rfl) (f258 a S ) (zt_trans (zt_cast (zr_18b_1 i268_4 (fun h2742 => zr_1_2 i268_7 (zr_0 i268_8 kc_0 (zr_0 i268_9 kc_215 (zr_cv (zs_22_3 i268_10 na_213 rfl) (f213 b 0 215 S ) (zt_cast (zr_18b_0 i268_11 (fun h2744 => zr_0 i268_12 kc_0 (zr_17 i268_13 (zt_rfl))) (fun h2745 => zr_0 i268_14 kc_2 (zt_rfl))) (zm_c zz_s (zl_c (zl_t zz_e) zz_s) zz_s)))))) (fun h2743 => zr_0 i268_5 kc_1 (zr_17 i268_6 (zt_rfl)))) (zm_c zz_s (zl_c (zl_t zz_e) zz_s) zz_s)) (zr_cv (zs_21_1 i268_15 na_212 ob_13 rfl) (f212 (if ((¬ (a < 0)) ∧ (¬ (((S 13 45) - 1) < a))) then ((if ((¬ (b < 0)) ∧ (¬ (215 < b))) then (0 : Int32) else 2) : Int32) else 1) S ) (zt_trans (zt_cast (zr_18b_0 i268_16 (fun h2746 => zr_2_0 i268_17 (zr_1_1 i268_18 (zr_1_2 i268_19 (zr_cv (zs_21_2 i268_20 na_257 ob_13 rfl) (f257 a b (z_up S 13 0 (if ((¬ (a < 0)) ∧ (¬ (((S 13 45) - 1) < a))) then ((if ((¬ (b < 0)) ∧ (¬ (215 < b))) then (0 : Int32) else 2) : Int32) else 1)) (g0 h2746) (fun h2748 => (zxc (zupc rfl) (g1 h2746 h2748)))) (zr_17 i268_21 (zt_rfl)))))) (fun h2747 => zr_0 i268_22 kc_0 (zt_rfl))) (zm_c zz_s (zl_c (zl_t zz_e) zz_s) zz_s)) (zr_25 i268_23))))))))
def F276 (a b : Int32) (S : zS) : Int32 := (if ((zb ((¬ ((¬ (a < 0)) ∧ (¬ (5 < a)))) ∨ (¬ ((¬ (b < (-1))) ∧ (¬ (5 < b)))))) = 0) then ((K271_4_c3 a b 0 (none : Option zV) 0 (z_up S 13 0 (zb ((¬ ((¬ (a < 0)) ∧ (¬ (5 < a)))) ∨ (¬ ((¬ (b < (-1))) ∧ (¬ (5 < b)))))))) : Int32) else 0)
def G276 (a b : Int32) (S : zS) : zS := (if ((zb ((¬ ((¬ (a < 0)) ∧ (¬ (5 < a)))) ∨ (¬ ((¬ (b < (-1))) ∧ (¬ (5 < b)))))) = 0) then (K271_4_S a b 0 (none : Option zV) 0 (z_up S 13 0 (zb ((¬ ((¬ (a < 0)) ∧ (¬ (5 < a)))) ∨ (¬ ((¬ (b < (-1))) ∧ (¬ (5 < b)))))))) else (z_up S 13 0 (zb ((¬ ((¬ (a < 0)) ∧ (¬ (5 < a)))) ∨ (¬ ((¬ (b < (-1))) ∧ (¬ (5 < b))))))))
set_option maxRecDepth 100000 in
theorem f276 {L : Nat} (a b : Int32) (S : zS) (g0 : zn 40 (S 13 57)) (g1 : zA 40 3 (S 122)) : zf L 276 [.inr (.inr 13), .inl a, .inl b] S (.inl (some (.inl (F276 a b S))), (G276 a b S), 0) := zf_of (en_276 _ _ _) (zr_2_0 i276_0 (zr_1_1 i276_1 (zr_0 i276_2 kc_0 (zr_0 i276_3 kc_5 (zr_cv (zs_22_3 i276_4 na_213 rfl) (f213 a 0 5 S ) (zt_trans (zt_cast (zr_18b_0 i276_5 (fun h2749 => zr_1_2 i276_6 (zr_0 i276_7 kc_m1 (zr_0 i276_8 kc_5 (zr_cv (zs_22_3 i276_9 na_213 rfl) (f213 b (-1) 5 S ) (zt_cast (zr_18b_0 i276_10 (fun h2751 => zr_0 i276_11 kc_0 (zr_17 i276_12 (zt_rfl))) (fun h2752 => zr_0 i276_13 kc_1 (zt_rfl))) (zm_c zz_s (zl_c (zl_t zz_01) zz_s) zz_s)))))) (fun h2750 => zr_0 i276_13 kc_1 (zt_rfl))) (zm_c zz_s (zl_c (zl_t zz_b1) zz_s) zz_s)) (zr_cv (zs_21_1 i276_14 na_212 ob_13 rfl) (f212 (zb ((¬ ((¬ (a < 0)) ∧ (¬ (5 < a)))) ∨ (¬ ((¬ (b < (-1))) ∧ (¬ (5 < b)))))) S ) (zt_cast (zr_18b_1 i276_15 (fun h2753 => zr_2_0 i276_18 (zr_1_1 i276_19 (zr_1_2 i276_20 (zr_cv (zs_21_2 i276_21 na_271 ob_13 rfl) (f271 a b (z_up S 13 0 (zb ((¬ ((¬ (a < 0)) ∧ (¬ (5 < a)))) ∨ (¬ ((¬ (b < (-1))) ∧ (¬ (5 < b))))))) (znv (zupf rfl) (g0)) (zpc1 (zupc rfl) (g1))) (zr_25 i276_22))))) (fun h2754 => zr_0 i276_16 kc_0 (zr_25 i276_17))) (zm_r zz_e zz_e)))))))))
set_option maxRecDepth 100000 in
theorem s281_18 {L : Nat} (x1 x2 x3 : Int32) (S : zS) (g0 : (¬ ((S 13 57) ≤ x3)) → zx 40 x3) : zt L 281 18 [some (.inr (.inr 13)), some (.inl x1), some (.inl x2), some (.inl x3)] [] S (if ((S 13 57) ≤ x3) then (.inl (42, [some (.inr (.inr 13)), some (.inl x1), some (.inl x2), some (.inl x3)], [], S)) else (.inl (18, [some (.inr (.inr 13)), some (.inl x1), some (.inl (x2 + (zb (((S 122 x3.toNatClampNeg) = x1) ∧ (¬ ((S 125 x3.toNatClampNeg) = 2)))))), some (.inl (x3 + 1))], [], S))) := zr_1_3 i281_18 (zr_2_0 i281_19 (zr_6 i281_20 fl_13_57 rfl (zr_19_3 i281_21 (fun h2775 => zt_rfl) (fun h2776 => zr_1_2 i281_22 (zr_2_0 i281_23 (zr_6r i281_24 fl_13_60 (zr_1_3 i281_25 (zr_8 i281_26 ar_122 (g0 h2776) rfl rfl (zr_1_1 i281_27 (zt_trans (zt_cast (zr_19_1 i281_28 (fun h2777 => zr_2_0 i281_29 (zr_6r i281_30 fl_13_63 (zr_1_3 i281_31 (zr_8 i281_32 ar_125 (g0 h2776) rfl rfl (zr_0 i281_33 kc_2 (zt_cast (zr_19_0 i281_34 (fun h2779 => zr_0 i281_37 kc_0 (zt_rfl)) (fun h2780 => zr_0 i281_35 kc_1 (zr_17 i281_36 (zt_rfl)))) (zm_c zz_s (zl_c (zl_t zz_01) zz_s) zz_s))))))) (fun h2778 => zr_0 i281_37 kc_0 (zt_rfl))) (zm_c zz_s (zl_c (zl_t zz_b0) zz_s) zz_s)) (zr_13_0 i281_38 (zr_3_2 i281_39 (zr_5_3 i281_40 kc_1 (zr_17 i281_41 (zt_rfl)))))))))))))))
def k281_18 (x1 : Int32) (S : zS) (j : Nat) (a : Int32) : Int32 := (a + (zb (((S 122 j) = x1) ∧ (¬ ((S 125 j) = 2)))))
set_option maxRecDepth 100000 in
theorem l281_18 {L : Nat} (x1 : Int32) (S : zS) (i0 n : Nat) (a : Int32) (hn : i0 + n < 2147483648) (hc0 : ∀ j, j < n → ¬ ((S 13 57) ≤ (Int32.ofNat (i0 + j)))) (g0 : ∀ j, j < n → (¬ ((S 13 57) ≤ (Int32.ofNat (i0 + j)))) → zx 40 (Int32.ofNat (i0 + j))) : zt L 281 18 [some (.inr (.inr 13)), some (.inl x1), some (.inl a), some (.inl (Int32.ofNat i0))] [] S (.inl (18, [some (.inr (.inr 13)), some (.inl x1), some (.inl (zfold (k281_18 x1 S) i0 n a)), some (.inl (Int32.ofNat (i0 + n)))], [], S)) := by
  induction n with
  | zero => exact zt_rfl
  | succ n ih =>
    have e1 := zk_ix (i0 + n) (by omega)
    have e2 := zk_add (i0 + n)
    refine zt_trans (ih (by omega) (fun j hj => hc0 j (by omega)) (fun j hj => g0 j (by omega))) ?_
    refine zt_cast (s281_18 x1 (zfold (k281_18 x1 S) i0 n a) (Int32.ofNat (i0 + n)) S (by have hg := g0 n (by omega); first | exact hg | (simp only [e1]; exact hg))) ?_
    rw [if_neg (show ¬ ((S 13 57) ≤ (Int32.ofNat (i0 + n))) from (by have hg := hc0 n (by omega); first | exact hg | (simp only [e1]; exact hg)))]
    simp only [zfold, k281_18, e1, e2, ← Nat.add_assoc]
def K281_18 (x1 x2 : Int32) (i0 : Nat) (S : zS) : Int32 := zfold (k281_18 x1 S) i0 ((S 13 57).toNatClampNeg - i0) x2
def K281_18_c2 (x1 x2 : Int32) (i0 : Nat) (S : zS) : Int32 := (K281_18 x1 x2 i0 S)
set_option maxRecDepth 100000 in
theorem L281_18 {L : Nat} (x1 x2 : Int32) (i0 : Nat) (S : zS) (hi : i0 ≤ 10000) (h0 : zn 40 (S 13 57)) : zt L 281 18 [some (.inr (.inr 13)), some (.inl x1), some (.inl x2), some (.inl (Int32.ofNat i0))] [] S (.inl (42, [some (.inr (.inr 13)), some (.inl x1), some (.inl (K281_18_c2 x1 x2 i0 S)), some (.inl (Int32.ofNat (i0 + ((S 13 57).toNatClampNeg - i0))))], [], S)) := by
  have hend : (S 13 57) ≤ Int32.ofNat (i0 + ((S 13 57).toNatClampNeg - i0)) := by exact zc_le_end h0 (by omega)
  refine zt_trans (l281_18 x1  S i0 ((S 13 57).toNatClampNeg - i0) x2 (by have := zn_cl h0; omega) (fun j hj => by exact zc_le h0 hj (by omega)) (fun j hj _ => by exact zx_of (by have := zn_cl h0; omega) (by have := zn_cl h0; omega))) ?_
  exact zt_cast (s281_18 x1 (zfold (k281_18 x1 S) i0 ((S 13 57).toNatClampNeg - i0) x2) (Int32.ofNat (i0 + ((S 13 57).toNatClampNeg - i0))) S (fun h9 => absurd hend h9)) (if_pos hend)
def F281 (a : Int32) (S : zS) : Int32 := (if ((zb (¬ ((¬ (a < 0)) ∧ (¬ (2 < a))))) = 0) then ((K281_18_c2 a (S 129 a.toNatClampNeg) 0 (z_up S 13 0 (zb (¬ ((¬ (a < 0)) ∧ (¬ (2 < a))))))) : Int32) else 0)
set_option maxRecDepth 100000 in
theorem f281 {L : Nat} (a : Int32) (S : zS) (g0 : ((zb (¬ ((¬ (a < 0)) ∧ (¬ (2 < a))))) = 0) → zx 3 a) (g1 : zn 40 (S 13 57)) : zf L 281 [.inr (.inr 13), .inl a] S (.inl (some (.inl (F281 a S))), (z_up S 13 0 (zb (¬ ((¬ (a < 0)) ∧ (¬ (2 < a)))))), 0) := zf_of (en_281 _ _) (zr_2_0 i281_0 (zr_1_1 i281_1 (zr_cv (zs_22_1 i281_2 na_279 rfl) (f279 a S ) (zt_trans (zt_cast (zr_18b_0 i281_3 (fun h2781 => zr_0 i281_4 kc_0 (zr_17 i281_5 (zt_rfl))) (fun h2782 => zr_0 i281_6 kc_1 (zt_rfl))) (zm_c zz_s (zl_c (zl_t zz_01) zz_s) zz_s)) (zr_cv (zs_21_1 i281_7 na_212 ob_13 rfl) (f212 (zb (¬ ((¬ (a < 0)) ∧ (¬ (2 < a))))) S ) (zt_cast (zr_18b_1 i281_8 (fun h2783 => zr_2_0 i281_11 (zr_6r i281_12 fl_13_67 (zr_1_1 i281_13 (zr_8 i281_14 ar_129 (g0 h2783) rfl (zupci rfl) (zr_3_2 i281_15 (zr_0 i281_16 kc_0 (zr_3_3 i281_17 (zt_trans (L281_18 a (S 129 a.toNatClampNeg) 0 (z_up S 13 0 (zb (¬ ((¬ (a < 0)) ∧ (¬ (2 < a)))))) (by decide) (znv (zupf rfl) (g1))) (zr_1_2 i281_42 (zr_25 i281_43)))))))))) (fun h2784 => zr_0 i281_9 kc_0 (zr_25 i281_10))) (zm_r zz_e zz_s)))))))
