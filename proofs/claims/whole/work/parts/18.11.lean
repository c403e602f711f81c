/-! the methods with loops, and what calls them (wip/whole/gen/gen18.py) -/
theorem i223_0 : zi 223 0 1 1 1 0 := by decide +kernel
theorem i223_1 : zi 223 1 2 0 0 1 := by decide +kernel
theorem i223_2 : zi 223 2 3 2 0 0 := by decide +kernel
theorem i223_3 : zi 223 3 4 6 12 4 := by decide +kernel
theorem i223_4 : zi 223 4 5 22 213 0 := by decide +kernel
theorem i223_5 : zi 223 5 6 3 3 0 := by decide +kernel
theorem i223_6 : zi 223 6 7 2 0 0 := by decide +kernel
theorem i223_7 : zi 223 7 8 1 3 0 := by decide +kernel
theorem i223_8 : zi 223 8 9 18 11 1 := by decide +kernel
theorem i223_11 : zi 223 11 12 1 2 0 := by decide +kernel
theorem i223_12 : zi 223 12 13 0 0 0 := by decide +kernel
theorem i223_13 : zi 223 13 14 0 0 256 := by decide +kernel
theorem i223_14 : zi 223 14 15 22 213 0 := by decide +kernel
theorem i223_15 : zi 223 15 16 18 18 1 := by decide +kernel
theorem i223_18 : zi 223 18 19 2 0 0 := by decide +kernel
theorem i223_19 : zi 223 19 20 6 12 2 := by decide +kernel
theorem i223_20 : zi 223 20 21 18 23 0 := by decide +kernel
theorem i223_23 : zi 223 23 24 0 0 0 := by decide +kernel
theorem i223_21 : zi 223 21 22 0 0 3 := by decide +kernel
theorem i223_22 : zi 223 22 23 17 24 0 := by decide +kernel
theorem i223_16 : zi 223 16 17 0 0 2 := by decide +kernel
theorem i223_17 : zi 223 17 18 17 24 0 := by decide +kernel
theorem i223_9 : zi 223 9 10 0 0 1 := by decide +kernel
theorem i223_10 : zi 223 10 11 17 24 0 := by decide +kernel
theorem i223_24 : zi 223 24 25 21 212 12 := by decide +kernel
theorem i223_25 : zi 223 25 26 18 28 1 := by decide +kernel
theorem i223_28 : zi 223 28 29 2 0 0 := by decide +kernel
theorem i223_29 : zi 223 29 30 6 12 7 := by decide +kernel
theorem i223_30 : zi 223 30 31 1 1 0 := by decide +kernel
theorem i223_31 : zi 223 31 32 1 2 0 := by decide +kernel
theorem i223_32 : zi 223 32 33 10 0 0 := by decide +kernel
theorem i223_33 : zi 223 33 34 2 0 0 := by decide +kernel
theorem i223_34 : zi 223 34 35 6 12 7 := by decide +kernel
theorem i223_35 : zi 223 35 36 22 220 0 := by decide +kernel
theorem na_220 : z_na 220 = 1 := by decide +kernel
theorem i223_36 : zi 223 36 37 3 4 0 := by decide +kernel
theorem i223_37 : zi 223 37 38 1 4 0 := by decide +kernel
theorem i223_38 : zi 223 38 39 2 0 0 := by decide +kernel
theorem i223_39 : zi 223 39 40 6 12 5 := by decide +kernel
theorem i223_40 : zi 223 40 41 19 43 3 := by decide +kernel
theorem i223_43 : zi 223 43 44 2 0 0 := by decide +kernel
theorem i223_44 : zi 223 44 45 2 0 0 := by decide +kernel
theorem i223_45 : zi 223 45 46 6 12 7 := by decide +kernel
theorem i223_46 : zi 223 46 47 22 222 0 := by decide +kernel
theorem na_222 : z_na 222 = 1 := by decide +kernel
theorem i223_47 : zi 223 47 48 2 0 0 := by decide +kernel
theorem i223_48 : zi 223 48 49 6 12 3 := by decide +kernel
theorem i223_49 : zi 223 49 50 19 52 1 := by decide +kernel
theorem i223_50 : zi 223 50 51 0 0 1 := by decide +kernel
theorem i223_51 : zi 223 51 52 17 53 0 := by decide +kernel
theorem i223_52 : zi 223 52 53 0 0 0 := by decide +kernel
theorem i223_53 : zi 223 53 54 33 12 2 := by decide +kernel
theorem i223_54 : zi 223 54 55 2 0 0 := by decide +kernel
theorem i223_55 : zi 223 55 56 21 214 12 := by decide +kernel
theorem na_214 : z_na 214 = 0 := by decide +kernel
theorem i223_56 : zi 223 56 57 0 0 0 := by decide +kernel
theorem i223_57 : zi 223 57 58 25 0 0 := by decide +kernel
theorem i223_41 : zi 223 41 42 1 4 0 := by decide +kernel
theorem i223_42 : zi 223 42 43 25 0 0 := by decide +kernel
theorem i223_26 : zi 223 26 27 0 0 0 := by decide +kernel
theorem i223_27 : zi 223 27 28 25 0 0 := by decide +kernel
theorem ml_223 : z_ml 223 = 5 := by decide +kernel
theorem en_223 : ∀ (v0 v1 v2 : zV), z_ent 223 [v0, v1, v2] = [some v0, some v1, some v2, none, none] := fun v0 v1 v2 => by unfold z_ent; rw [ml_223]; rfl
theorem i224_0 : zi 224 0 1 2 0 0 := by decide +kernel
theorem i224_1 : zi 224 1 2 0 0 0 := by decide +kernel
theorem i224_2 : zi 224 2 3 7 12 0 := by decide +kernel
theorem i224_3 : zi 224 3 4 2 0 0 := by decide +kernel
theorem i224_4 : zi 224 4 5 6 12 2 := by decide +kernel
theorem i224_5 : zi 224 5 6 3 1 0 := by decide +kernel
theorem i224_6 : zi 224 6 7 2 0 0 := by decide +kernel
theorem i224_7 : zi 224 7 8 21 214 12 := by decide +kernel
theorem i224_8 : zi 224 8 9 2 0 0 := by decide +kernel
theorem i224_9 : zi 224 9 10 0 0 0 := by decide +kernel
theorem i224_10 : zi 224 10 11 33 12 2 := by decide +kernel
theorem i224_11 : zi 224 11 12 2 0 0 := by decide +kernel
theorem i224_12 : zi 224 12 13 0 0 0 := by decide +kernel
theorem i224_13 : zi 224 13 14 33 12 9 := by decide +kernel
theorem fl_13_9 : zfl 13 12 9 9 none := by decide +kernel
theorem i224_14 : zi 224 14 15 1 1 0 := by decide +kernel
theorem i224_15 : zi 224 15 16 26 0 0 := by decide +kernel
theorem ml_224 : z_ml 224 = 2 := by decide +kernel
theorem en_224 : ∀ (v0 : zV), z_ent 224 [v0] = [some v0, none] := fun v0 => by unfold z_ent; rw [ml_224]; rfl
theorem i226_0 : zi 226 0 1 2 0 0 := by decide +kernel
theorem i226_1 : zi 226 1 2 1 1 0 := by decide +kernel
theorem i226_2 : zi 226 2 3 1 2 0 := by decide +kernel
theorem i226_3 : zi 226 3 4 1 3 0 := by decide +kernel
theorem i226_4 : zi 226 4 5 22 217 0 := by decide +kernel
theorem i226_5 : zi 226 5 6 18 8 1 := by decide +kernel
theorem i226_8 : zi 226 8 9 2 0 0 := by decide +kernel
theorem i226_9 : zi 226 9 10 6 12 2 := by decide +kernel
theorem i226_10 : zi 226 10 11 18 13 0 := by decide +kernel
theorem i226_13 : zi 226 13 14 0 0 2 := by decide +kernel
theorem i226_11 : zi 226 11 12 0 0 0 := by decide +kernel
theorem i226_12 : zi 226 12 13 17 14 0 := by decide +kernel
theorem i226_6 : zi 226 6 7 0 0 1 := by decide +kernel
theorem i226_7 : zi 226 7 8 17 14 0 := by decide +kernel
theorem i226_14 : zi 226 14 15 21 212 12 := by decide +kernel
theorem i226_15 : zi 226 15 16 18 30 0 := by decide +kernel
theorem i226_16 : zi 226 16 17 2 0 0 := by decide +kernel
theorem i226_17 : zi 226 17 18 0 0 1 := by decide +kernel
theorem i226_18 : zi 226 18 19 33 12 9 := by decide +kernel
theorem i226_19 : zi 226 19 20 2 0 0 := by decide +kernel
theorem i226_20 : zi 226 20 21 1 1 0 := by decide +kernel
theorem i226_21 : zi 226 21 22 7 12 10 := by decide +kernel
theorem fl_13_10 : zfl 13 12 10 10 none := by decide +kernel
theorem i226_22 : zi 226 22 23 2 0 0 := by decide +kernel
theorem i226_23 : zi 226 23 24 1 2 0 := by decide +kernel
theorem i226_24 : zi 226 24 25 7 12 11 := by decide +kernel
theorem fl_13_11 : zfl 13 12 11 11 none := by decide +kernel
theorem i226_25 : zi 226 25 26 2 0 0 := by decide +kernel
theorem i226_26 : zi 226 26 27 1 3 0 := by decide +kernel
theorem i226_27 : zi 226 27 28 7 12 12 := by decide +kernel
theorem fl_13_12 : zfl 13 12 12 12 none := by decide +kernel
theorem i226_28 : zi 226 28 29 2 0 0 := by decide +kernel
theorem i226_29 : zi 226 29 30 21 214 12 := by decide +kernel
theorem i226_30 : zi 226 30 31 27 0 0 := by decide +kernel
theorem ml_226 : z_ml 226 = 4 := by decide +kernel
theorem en_226 : ∀ (v0 v1 v2 v3 : zV), z_ent 226 [v0, v1, v2, v3] = [some v0, some v1, some v2, some v3] := fun v0 v1 v2 v3 => by unfold z_ent; rw [ml_226]; rfl
theorem i227_0 : zi 227 0 1 1 1 0 := by decide +kernel
theorem i227_1 : zi 227 1 2 0 0 1 := by decide +kernel
theorem i227_2 : zi 227 2 3 2 0 0 := by decide +kernel
theorem i227_3 : zi 227 3 4 6 12 4 := by decide +kernel
theorem i227_4 : zi 227 4 5 22 213 0 := by decide +kernel
theorem i227_5 : zi 227 5 6 3 3 0 := by decide +kernel
theorem i227_6 : zi 227 6 7 2 0 0 := by decide +kernel
theorem i227_7 : zi 227 7 8 1 3 0 := by decide +kernel
theorem i227_8 : zi 227 8 9 18 11 1 := by decide +kernel
theorem i227_11 : zi 227 11 12 1 2 0 := by decide +kernel
theorem i227_12 : zi 227 12 13 0 0 0 := by decide +kernel
theorem i227_13 : zi 227 13 14 0 0 256 := by decide +kernel
theorem i227_14 : zi 227 14 15 22 213 0 := by decide +kernel
theorem i227_15 : zi 227 15 16 18 18 1 := by decide +kernel
theorem i227_18 : zi 227 18 19 2 0 0 := by decide +kernel
theorem i227_19 : zi 227 19 20 6 12 9 := by decide +kernel
theorem i227_20 : zi 227 20 21 18 23 0 := by decide +kernel
theorem i227_23 : zi 227 23 24 0 0 3 := by decide +kernel
theorem i227_21 : zi 227 21 22 0 0 0 := by decide +kernel
theorem i227_22 : zi 227 22 23 17 24 0 := by decide +kernel
theorem i227_16 : zi 227 16 17 0 0 2 := by decide +kernel
theorem i227_17 : zi 227 17 18 17 24 0 := by decide +kernel
theorem i227_9 : zi 227 9 10 0 0 1 := by decide +kernel
theorem i227_10 : zi 227 10 11 17 24 0 := by decide +kernel
theorem i227_24 : zi 227 24 25 21 212 12 := by decide +kernel
theorem i227_25 : zi 227 25 26 18 28 1 := by decide +kernel
theorem i227_28 : zi 227 28 29 2 0 0 := by decide +kernel
theorem i227_29 : zi 227 29 30 6 12 8 := by decide +kernel
theorem i227_30 : zi 227 30 31 1 1 0 := by decide +kernel
theorem i227_31 : zi 227 31 32 1 2 0 := by decide +kernel
theorem i227_32 : zi 227 32 33 10 0 0 := by decide +kernel
theorem i227_33 : zi 227 33 34 2 0 0 := by decide +kernel
theorem i227_34 : zi 227 34 35 6 12 8 := by decide +kernel
theorem i227_35 : zi 227 35 36 22 220 0 := by decide +kernel
theorem i227_36 : zi 227 36 37 3 4 0 := by decide +kernel
theorem i227_37 : zi 227 37 38 1 4 0 := by decide +kernel
theorem i227_38 : zi 227 38 39 2 0 0 := by decide +kernel
theorem i227_39 : zi 227 39 40 6 12 5 := by decide +kernel
theorem i227_40 : zi 227 40 41 19 43 3 := by decide +kernel
theorem i227_43 : zi 227 43 44 2 0 0 := by decide +kernel
theorem i227_44 : zi 227 44 45 6 12 8 := by decide +kernel
theorem i227_45 : zi 227 45 46 22 222 0 := by decide +kernel
theorem i227_46 : zi 227 46 47 2 0 0 := by decide +kernel
theorem i227_47 : zi 227 47 48 6 12 3 := by decide +kernel
theorem i227_48 : zi 227 48 49 19 51 1 := by decide +kernel
theorem i227_49 : zi 227 49 50 0 0 1 := by decide +kernel
theorem i227_50 : zi 227 50 51 17 52 0 := by decide +kernel
theorem i227_51 : zi 227 51 52 0 0 0 := by decide +kernel
theorem i227_52 : zi 227 52 53 3 5 0 := by decide +kernel
theorem i227_53 : zi 227 53 54 2 0 0 := by decide +kernel
theorem i227_54 : zi 227 54 55 0 0 0 := by decide +kernel
theorem i227_55 : zi 227 55 56 33 12 9 := by decide +kernel
theorem i227_56 : zi 227 56 57 2 0 0 := by decide +kernel
theorem i227_57 : zi 227 57 58 21 214 12 := by decide +kernel
theorem i227_58 : zi 227 58 59 1 5 0 := by decide +kernel
theorem i227_59 : zi 227 59 60 18 68 0 := by decide +kernel
theorem i227_60 : zi 227 60 61 2 0 0 := by decide +kernel
theorem i227_61 : zi 227 61 62 2 0 0 := by decide +kernel
theorem i227_62 : zi 227 62 63 6 12 10 := by decide +kernel
theorem i227_63 : zi 227 63 64 2 0 0 := by decide +kernel
theorem i227_64 : zi 227 64 65 6 12 11 := by decide +kernel
theorem i227_65 : zi 227 65 66 2 0 0 := by decide +kernel
theorem i227_66 : zi 227 66 67 6 12 12 := by decide +kernel
theorem i227_67 : zi 227 67 68 21 216 12 := by decide +kernel
theorem i227_68 : zi 227 68 69 0 0 0 := by decide +kernel
theorem i227_69 : zi 227 69 70 25 0 0 := by decide +kernel
theorem i227_41 : zi 227 41 42 1 4 0 := by decide +kernel
theorem i227_42 : zi 227 42 43 25 0 0 := by decide +kernel
theorem i227_26 : zi 227 26 27 0 0 0 := by decide +kernel
theorem i227_27 : zi 227 27 28 25 0 0 := by decide +kernel
theorem ml_227 : z_ml 227 = 6 := by decide +kernel
theorem en_227 : ∀ (v0 v1 v2 : zV), z_ent 227 [v0, v1, v2] = [some v0, some v1, some v2, none, none, none] := fun v0 v1 v2 => by unfold z_ent; rw [ml_227]; rfl
def F223 (a b : Int32) (S : zS) : Int32 := (if ((if ((¬ (a < 1)) ∧ (¬ ((S 13 4) < a))) then ((if ((¬ (b < 0)) ∧ (¬ (256 < b))) then ((if ((S 13 2) = 0) then (0 : Int32) else 3) : Int32) else 2) : Int32) else 1) = 0) then ((if ((S 13 5) ≤ (K220_82_4_c1 0 1 (z_up (z_up S 13 0 (if ((¬ (a < 1)) ∧ (¬ ((S 13 4) < a))) then ((if ((¬ (b < 0)) ∧ (¬ (256 < b))) then ((if ((S 13 2) = 0) then (0 : Int32) else 3) : Int32) else 2) : Int32) else 1)) 82 a.toNatClampNeg b))) then (0 : Int32) else (K220_82_4_c1 0 1 (z_up (z_up S 13 0 (if ((¬ (a < 1)) ∧ (¬ ((S 13 4) < a))) then ((if ((¬ (b < 0)) ∧ (¬ (256 < b))) then ((if ((S 13 2) = 0) then (0 : Int32) else 3) : Int32) else 2) : Int32) else 1)) 82 a.toNatClampNeg b))) : Int32) else 0)
def G223 (a b : Int32) (S : zS) : zS := (if ((if ((¬ (a < 1)) ∧ (¬ ((S 13 4) < a))) then ((if ((¬ (b < 0)) ∧ (¬ (256 < b))) then ((if ((S 13 2) = 0) then (0 : Int32) else 3) : Int32) else 2) : Int32) else 1) = 0) then (if ((S 13 5) ≤ (K220_82_4_c1 0 1 (z_up (z_up S 13 0 (if ((¬ (a < 1)) ∧ (¬ ((S 13 4) < a))) then ((if ((¬ (b < 0)) ∧ (¬ (256 < b))) then ((if ((S 13 2) = 0) then (0 : Int32) else 3) : Int32) else 2) : Int32) else 1)) 82 a.toNatClampNeg b))) then (K214_2_S 0 (z_up (z_up (z_up S 13 0 (if ((¬ (a < 1)) ∧ (¬ ((S 13 4) < a))) then ((if ((¬ (b < 0)) ∧ (¬ (256 < b))) then ((if ((S 13 2) = 0) then (0 : Int32) else 3) : Int32) else 2) : Int32) else 1)) 82 a.toNatClampNeg b) 13 2 (zb ((zrem (K222_82_4_c1 0 (none : Option zV) (none : Option zV) 1 (z_up (z_up S 13 0 (if ((¬ (a < 1)) ∧ (¬ ((S 13 4) < a))) then ((if ((¬ (b < 0)) ∧ (¬ (256 < b))) then ((if ((S 13 2) = 0) then (0 : Int32) else 3) : Int32) else 2) : Int32) else 1)) 82 a.toNatClampNeg b)) 257) = (S 13 3))))) else (z_up (z_up S 13 0 (if ((¬ (a < 1)) ∧ (¬ ((S 13 4) < a))) then ((if ((¬ (b < 0)) ∧ (¬ (256 < b))) then ((if ((S 13 2) = 0) then (0 : Int32) else 3) : Int32) else 2) : Int32) else 1)) 82 a.toNatClampNeg b)) else (z_up S 13 0 (if ((¬ (a < 1)) ∧ (¬ ((S 13 4) < a))) then ((if ((¬ (b < 0)) ∧ (¬ (256 < b))) then ((if ((S 13 2) = 0) then (0 : Int32) else 3) : Int32) else 2) : Int32) else 1)))
set_option maxRecDepth 100000 in
theorem f223 {L : Nat} (a b : Int32) (S : zS) (g0 : ((if ((¬ (a < 1)) ∧ (¬ ((S 13 4) < a))) then ((if ((¬ (b < 0)) ∧ (¬ (256 < b))) then ((if ((S 13 2) = 0) then (0 : Int32) else 3) : Int32) else 2) : Int32) else 1) = 0) → zx 7 a) : zf L 223 [.inr (.inr 13), .inl a, .inl b] S (.inl (some (.inl (F223 a b S))), (G223 a b S), 0) := zf_of (en_223 _ _ _) (zr_1_1 i223_0 (zr_0 i223_1 kc_1 (zr_2_0 i223_2 (zr_6 i223_3 fl_13_4 rfl (zr_cv (zs_22_3 i223_4 na_213 rfl) (f213 a 1 (S 13 4) S ) (zr_3_3 i223_5 (zr_2_0 i223_6 (zr_1_3 i223_7 (zt_trans (zt_cast (zr_18b_1 i223_8 (fun h2089 => zr_1_2 i223_11 (zr_0 i223_12 kc_0 (zr_0 i223_13 kc_256 (zr_cv (zs_22_3 i223_14 na_213 rfl) (f213 b 0 256 S ) (zt_cast (zr_18b_1 i223_15 (fun h2091 => zr_2_0 i223_18 (zr_6 i223_19 fl_13_2 rfl (zt_cast (zr_18_0 i223_20 (fun h2093 => zr_0 i223_23 kc_0 (zt_rfl)) (fun h2094 => zr_0 i223_21 kc_3 (zr_17 i223_22 (zt_rfl)))) (zm_c zz_s (zl_c (zl_t zz_e) zz_s) zz_s)))) (fun h2092 => zr_0 i223_16 kc_2 (zr_17 i223_17 (zt_rfl)))) (zm_c zz_s (zl_c (zl_t zz_e) zz_s) zz_s)))))) (fun h2090 => zr_0 i223_9 kc_1 (zr_17 i223_10 (zt_rfl)))) (zm_c zz_s (zl_c (zl_t zz_e) zz_s) zz_s)) (zr_cv (zs_21_1 i223_24 na_212 ob_13 rfl) (f212 (if ((¬ (a < 1)) ∧ (¬ ((S 13 4) < a))) then ((if ((¬ (b < 0)) ∧ (¬ (256 < b))) then ((if ((S 13 2) = 0) then (0 : Int32) else 3) : Int32) else 2) : Int32) else 1) S ) (zt_cast (zr_18b_1 i223_25 (fun h2095 => zr_2_0 i223_28 (zr_6r i223_29 fl_13_7 (zr_1_1 i223_30 (zr_1_2 i223_31 (zr_10 i223_32 ar_82 (g0 h2095) rfl (zr_2_0 i223_33 (zr_6r i223_34 fl_13_7 (zr_cv (zs_22_1 i223_35 na_220 rfl) (f220_82  (z_up (z_up S 13 0 (if ((¬ (a < 1)) ∧ (¬ ((S 13 4) < a))) then ((if ((¬ (b < 0)) ∧ (¬ (256 < b))) then ((if ((S 13 2) = 0) then (0 : Int32) else 3) : Int32) else 2) : Int32) else 1)) 82 a.toNatClampNeg b) ) (zr_3_4 i223_36 (zr_1_4 i223_37 (zr_2_0 i223_38 (zr_6 i223_39 fl_13_5 ((zupci rfl).trans (zupf rfl)) (zt_cast (zr_19_3 i223_40 (fun h2097 => zr_2_0 i223_43 (zr_2_0 i223_44 (zr_6r i223_45 fl_13_7 (zr_cv (zs_22_1 i223_46 na_222 rfl) (f222_82  (z_up (z_up S 13 0 (if ((¬ (a < 1)) ∧ (¬ ((S 13 4) < a))) then ((if ((¬ (b < 0)) ∧ (¬ (256 < b))) then ((if ((S 13 2) = 0) then (0 : Int32) else 3) : Int32) else 2) : Int32) else 1)) 82 a.toNatClampNeg b) ) (zr_2_0 i223_47 (zr_6 i223_48 fl_13_3 ((zupci rfl).trans (zupf rfl)) (zt_trans (zt_cast (zr_19_1 i223_49 (fun h2099 => zr_0 i223_50 kc_1 (zr_17 i223_51 (zt_rfl))) (fun h2100 => zr_0 i223_52 kc_0 (zt_rfl))) (zm_c zz_s (zl_c (zl_t zz_10) zz_s) zz_s)) (zr_33 i223_53 fl_13_2 (zb_01 _) (zr_2_0 i223_54 (zr_cn (zs_21_0 i223_55 na_214 ob_13 rfl) (f214  (z_up (z_up (z_up S 13 0 (if ((¬ (a < 1)) ∧ (¬ ((S 13 4) < a))) then ((if ((¬ (b < 0)) ∧ (¬ (256 < b))) then ((if ((S 13 2) = 0) then (0 : Int32) else 3) : Int32) else 2) : Int32) else 1)) 82 a.toNatClampNeg b) 13 2 (zb ((zrem (K222_82_4_c1 0 (none : Option zV) (none : Option zV) 1 (z_up (z_up S 13 0 (if ((¬ (a < 1)) ∧ (¬ ((S 13 4) < a))) then ((if ((¬ (b < 0)) ∧ (¬ (256 < b))) then ((if ((S 13 2) = 0) then (0 : Int32) else 3) : Int32) else 2) : Int32) else 1)) 82 a.toNatClampNeg b)) 257) = (S 13 3)))) ) (zr_0 i223_56 kc_0 (zr_25 i223_57)))))))))))) (fun h2098 => zr_1_4 i223_41 (zr_25 i223_42))) (zm_r zz_e zz_e)))))))))))))) (fun h2096 => zr_0 i223_26 kc_0 (zr_25 i223_27))) (zm_r zz_e zz_e))))))))))))
set_option maxRecDepth 100000 in
theorem f224 {L : Nat} (S : zS) (g0 : zo (S 13 2)) : zf L 224 [.inr (.inr 13)] S (.inl (some (.inl (S 13 2))), (z_up (z_up (K214_2_S 0 (z_up S 13 0 0)) 13 2 0) 13 9 0), 0) := zf_of (en_224 _) (zr_2_0 i224_0 (zr_0 i224_1 kc_0 (zr_7 i224_2 fl_13_0 (zr_2_0 i224_3 (zr_6 i224_4 fl_13_2 (zupf rfl) (zr_3_1 i224_5 (zr_2_0 i224_6 (zr_cn (zs_21_0 i224_7 na_214 ob_13 rfl) (f214  (z_up S 13 0 0) ) (zr_2_0 i224_8 (zr_0 i224_9 kc_0 (zr_33 i224_10 fl_13_2 (zo_0) (zr_2_0 i224_11 (zr_0 i224_12 kc_0 (zr_33 i224_13 fl_13_9 (zo_0) (zr_1_1 i224_14 (zr_26 i224_15 (g0)))))))))))))))))
def G226 (a b c : Int32) (S : zS) : zS := (if ((if (((¬ (a < 0)) ∧ (¬ (65535 < a))) ∧ (((¬ (b < 1)) ∧ (¬ (6 < b))) ∧ ((¬ (c < 1)) ∧ (¬ (b < c))))) then ((if ((S 13 2) = 0) then (2 : Int32) else 0) : Int32) else 1) = 0) then (K214_2_S 0 (z_up (z_up (z_up (z_up (z_up S 13 0 (if (((¬ (a < 0)) ∧ (¬ (65535 < a))) ∧ (((¬ (b < 1)) ∧ (¬ (6 < b))) ∧ ((¬ (c < 1)) ∧ (¬ (b < c))))) then ((if ((S 13 2) = 0) then (2 : Int32) else 0) : Int32) else 1)) 13 9 1) 13 10 a) 13 11 b) 13 12 c)) else (z_up S 13 0 (if (((¬ (a < 0)) ∧ (¬ (65535 < a))) ∧ (((¬ (b < 1)) ∧ (¬ (6 < b))) ∧ ((¬ (c < 1)) ∧ (¬ (b < c))))) then ((if ((S 13 2) = 0) then (2 : Int32) else 0) : Int32) else 1)))
set_option maxRecDepth 100000 in
theorem f226 {L : Nat} (a b c : Int32) (S : zS) : zf L 226 [.inr (.inr 13), .inl a, .inl b, .inl c] S (.inl none, (G226 a b c S), 0) := zf_of (en_226 _ _ _ _) (zr_2_0 i226_0 (zr_1_1 i226_1 (zr_1_2 i226_2 (zr_1_3 i226_3 (zr_cv (zs_22_3 i226_4 na_217 rfl) (f217 a b c S ) (zt_trans (zt_cast (zr_18b_1 i226_5 (fun h2101 => zr_2_0 i226_8 (zr_6 i226_9 fl_13_2 rfl (zt_cast (zr_18_0 i226_10 (fun h2103 => zr_0 i226_13 kc_2 (zt_rfl)) (fun h2104 => zr_0 i226_11 kc_0 (zr_17 i226_12 (zt_rfl)))) (zm_c zz_s (zl_c (zl_t zz_e) zz_s) zz_s)))) (fun h2102 => zr_0 i226_6 kc_1 (zr_17 i226_7 (zt_rfl)))) (zm_c zz_s (zl_c (zl_t zz_e) zz_s) zz_s)) (zr_cv (zs_21_1 i226_14 na_212 ob_13 rfl) (f212 (if (((¬ (a < 0)) ∧ (¬ (65535 < a))) ∧ (((¬ (b < 1)) ∧ (¬ (6 < b))) ∧ ((¬ (c < 1)) ∧ (¬ (b < c))))) then ((if ((S 13 2) = 0) then (2 : Int32) else 0) : Int32) else 1) S ) (zt_trans (zt_cast (zr_18b_0 i226_15 (fun h2105 => zr_2_0 i226_16 (zr_0 i226_17 kc_1 (zr_33 i226_18 fl_13_9 (zo_1) (zr_2_0 i226_19 (zr_1_1 i226_20 (zr_7 i226_21 fl_13_10 (zr_2_0 i226_22 (zr_1_2 i226_23 (zr_7 i226_24 fl_13_11 (zr_2_0 i226_25 (zr_1_3 i226_26 (zr_7 i226_27 fl_13_12 (zr_2_0 i226_28 (zr_cn (zs_21_0 i226_29 na_214 ob_13 rfl) (f214  (z_up (z_up (z_up (z_up (z_up S 13 0 (if (((¬ (a < 0)) ∧ (¬ (65535 < a))) ∧ (((¬ (b < 1)) ∧ (¬ (6 < b))) ∧ ((¬ (c < 1)) ∧ (¬ (b < c))))) then ((if ((S 13 2) = 0) then (2 : Int32) else 0) : Int32) else 1)) 13 9 1) 13 10 a) 13 11 b) 13 12 c) ) (zt_rfl))))))))))))))) (fun h2106 => zt_rfl)) (zm_c zz_s zz_s zz_e)) (zr_27 i226_30)))))))))
set_option maxRecDepth 100000 in
theorem w_K214_2_S_13_11 (i0 : Nat) (S : zS) : K214_2_S  i0 S 13 11 = S 13 11 := zfold_keep (f := (k214_2 )) (fun (b : zS) => b 13 11) ((fun j b => by unfold k214_2; exact (show (z_up (z_up b 82 j (-1)) 83 j (-1)) 13 11 = b 13 11 from ((zupci rfl).trans (zupci rfl))))) _ _
set_option maxRecDepth 100000 in
theorem w_K214_2_S_13_12 (i0 : Nat) (S : zS) : K214_2_S  i0 S 13 12 = S 13 12 := zfold_keep (f := (k214_2 )) (fun (b : zS) => b 13 12) ((fun j b => by unfold k214_2; exact (show (z_up (z_up b 82 j (-1)) 83 j (-1)) 13 12 = b 13 12 from ((zupci rfl).trans (zupci rfl))))) _ _
def F227 (a b : Int32) (S : zS) : Int32 := (if ((if ((¬ (a < 1)) ∧ (¬ ((S 13 4) < a))) then ((if ((¬ (b < 0)) ∧ (¬ (256 < b))) then ((if ((S 13 9) = 0) then (3 : Int32) else 0) : Int32) else 2) : Int32) else 1) = 0) then ((if ((S 13 5) ≤ (K220_83_4_c1 0 1 (z_up (z_up S 13 0 (if ((¬ (a < 1)) ∧ (¬ ((S 13 4) < a))) then ((if ((¬ (b < 0)) ∧ (¬ (256 < b))) then ((if ((S 13 9) = 0) then (3 : Int32) else 0) : Int32) else 2) : Int32) else 1)) 83 a.toNatClampNeg b))) then (0 : Int32) else (K220_83_4_c1 0 1 (z_up (z_up S 13 0 (if ((¬ (a < 1)) ∧ (¬ ((S 13 4) < a))) then ((if ((¬ (b < 0)) ∧ (¬ (256 < b))) then ((if ((S 13 9) = 0) then (3 : Int32) else 0) : Int32) else 2) : Int32) else 1)) 83 a.toNatClampNeg b))) : Int32) else 0)
def G227 (a b : Int32) (S : zS) : zS := (if ((if ((¬ (a < 1)) ∧ (¬ ((S 13 4) < a))) then ((if ((¬ (b < 0)) ∧ (¬ (256 < b))) then ((if ((S 13 9) = 0) then (3 : Int32) else 0) : Int32) else 2) : Int32) else 1) = 0) then (if ((S 13 5) ≤ (K220_83_4_c1 0 1 (z_up (z_up S 13 0 (if ((¬ (a < 1)) ∧ (¬ ((S 13 4) < a))) then ((if ((¬ (b < 0)) ∧ (¬ (256 < b))) then ((if ((S 13 9) = 0) then (3 : Int32) else 0) : Int32) else 2) : Int32) else 1)) 83 a.toNatClampNeg b))) then (if ((zrem (K222_83_4_c1 0 (none : Option zV) (none : Option zV) 1 (z_up (z_up S 13 0 (if ((¬ (a < 1)) ∧ (¬ ((S 13 4) < a))) then ((if ((¬ (b < 0)) ∧ (¬ (256 < b))) then ((if ((S 13 9) = 0) then (3 : Int32) else 0) : Int32) else 2) : Int32) else 1)) 83 a.toNatClampNeg b)) 257) = (S 13 3)) then (G216 ((K214_2_S 0 (z_up (z_up (z_up S 13 0 (if ((¬ (a < 1)) ∧ (¬ ((S 13 4) < a))) then ((if ((¬ (b < 0)) ∧ (¬ (256 < b))) then ((if ((S 13 9) = 0) then (3 : Int32) else 0) : Int32) else 2) : Int32) else 1)) 83 a.toNatClampNeg b) 13 9 0)) 13 10) ((K214_2_S 0 (z_up (z_up (z_up S 13 0 (if ((¬ (a < 1)) ∧ (¬ ((S 13 4) < a))) then ((if ((¬ (b < 0)) ∧ (¬ (256 < b))) then ((if ((S 13 9) = 0) then (3 : Int32) else 0) : Int32) else 2) : Int32) else 1)) 83 a.toNatClampNeg b) 13 9 0)) 13 11) ((K214_2_S 0 (z_up (z_up (z_up S 13 0 (if ((¬ (a < 1)) ∧ (¬ ((S 13 4) < a))) then ((if ((¬ (b < 0)) ∧ (¬ (256 < b))) then ((if ((S 13 9) = 0) then (3 : Int32) else 0) : Int32) else 2) : Int32) else 1)) 83 a.toNatClampNeg b) 13 9 0)) 13 12) (K214_2_S 0 (z_up (z_up (z_up S 13 0 (if ((¬ (a < 1)) ∧ (¬ ((S 13 4) < a))) then ((if ((¬ (b < 0)) ∧ (¬ (256 < b))) then ((if ((S 13 9) = 0) then (3 : Int32) else 0) : Int32) else 2) : Int32) else 1)) 83 a.toNatClampNeg b) 13 9 0))) else (K214_2_S 0 (z_up (z_up (z_up S 13 0 (if ((¬ (a < 1)) ∧ (¬ ((S 13 4) < a))) then ((if ((¬ (b < 0)) ∧ (¬ (256 < b))) then ((if ((S 13 9) = 0) then (3 : Int32) else 0) : Int32) else 2) : Int32) else 1)) 83 a.toNatClampNeg b) 13 9 0))) else (z_up (z_up S 13 0 (if ((¬ (a < 1)) ∧ (¬ ((S 13 4) < a))) then ((if ((¬ (b < 0)) ∧ (¬ (256 < b))) then ((if ((S 13 9) = 0) then (3 : Int32) else 0) : Int32) else 2) : Int32) else 1)) 83 a.toNatClampNeg b)) else (z_up S 13 0 (if ((¬ (a < 1)) ∧ (¬ ((S 13 4) < a))) then ((if ((¬ (b < 0)) ∧ (¬ (256 < b))) then ((if ((S 13 9) = 0) then (3 : Int32) else 0) : Int32) else 2) : Int32) else 1)))
set_option maxRecDepth 100000 in
theorem f227 {L : Nat} (a b : Int32) (S : zS) (g0 : ((if ((¬ (a < 1)) ∧ (¬ ((S 13 4) < a))) then ((if ((¬ (b < 0)) ∧ (¬ (256 < b))) then ((if ((S 13 9) = 0) then (3 : Int32) else 0) : Int32) else 2) : Int32) else 1) = 0) → zx 7 a) (g1 : zn 6 (S 13 11)) (g2 : zn 6 (S 13 12)) : zf L 227 [.inr (.inr 13), .inl a, .inl b] S (.inl (some (.inl (F227 a b S))), (G227 a b S), 0) := zf_of (en_227 _ _ _) (zr_1_1 i227_0 (zr_0 i227_1 kc_1 (zr_2_0 i227_2 (zr_6 i227_3 fl_13_4 rfl (zr_cv (zs_22_3 i227_4 na_213 rfl) (f213 a 1 (S 13 4) S ) (zr_3_3 i227_5 (zr_2_0 i227_6 (zr_1_3 i227_7 (zt_trans (zt_cast (zr_18b_1 i227_8 (fun h2107 => zr_1_2 i227_11 (zr_0 i227_12 kc_0 (zr_0 i227_13 kc_256 (zr_cv (zs_22_3 i227_14 na_213 rfl) (f213 b 0 256 S ) (zt_cast (zr_18b_1 i227_15 (fun h2109 => zr_2_0 i227_18 (zr_6 i227_19 fl_13_9 rfl (zt_cast (zr_18_0 i227_20 (fun h2111 => zr_0 i227_23 kc_3 (zt_rfl)) (fun h2112 => zr_0 i227_21 kc_0 (zr_17 i227_22 (zt_rfl)))) (zm_c zz_s (zl_c (zl_t zz_e) zz_s) zz_s)))) (fun h2110 => zr_0 i227_16 kc_2 (zr_17 i227_17 (zt_rfl)))) (zm_c zz_s (zl_c (zl_t zz_e) zz_s) zz_s)))))) (fun h2108 => zr_0 i227_9 kc_1 (zr_17 i227_10 (zt_rfl)))) (zm_c zz_s (zl_c (zl_t zz_e) zz_s) zz_s)) (zr_cv (zs_21_1 i227_24 na_212 ob_13 rfl) (f212 (if ((¬ (a < 1)) ∧ (¬ ((S 13 4) < a))) then ((if ((¬ (b < 0)) ∧ (¬ (256 < b))) then ((if ((S 13 9) = 0) then (3 : Int32) else 0) : Int32) else 2) : Int32) else 1) S ) (zt_cast (zr_18b_1 i227_25 (fun h2113 => zr_2_0 i227_28 (zr_6r i227_29 fl_13_8 (zr_1_1 i227_30 (zr_1_2 i227_31 (zr_10 i227_32 ar_83 (g0 h2113) rfl (zr_2_0 i227_33 (zr_6r i227_34 fl_13_8 (zr_cv (zs_22_1 i227_35 na_220 rfl) (f220_83  (z_up (z_up S 13 0 (if ((¬ (a < 1)) ∧ (¬ ((S 13 4) < a))) then ((if ((¬ (b < 0)) ∧ (¬ (256 < b))) then ((if ((S 13 9) = 0) then (3 : Int32) else 0) : Int32) else 2) : Int32) else 1)) 83 a.toNatClampNeg b) ) (zr_3_4 i227_36 (zr_1_4 i227_37 (zr_2_0 i227_38 (zr_6 i227_39 fl_13_5 ((zupci rfl).trans (zupf rfl)) (zt_cast (zr_19_3 i227_40 (fun h2115 => zr_2_0 i227_43 (zr_6r i227_44 fl_13_8 (zr_cv (zs_22_1 i227_45 na_222 rfl) (f222_83  (z_up (z_up S 13 0 (if ((¬ (a < 1)) ∧ (¬ ((S 13 4) < a))) then ((if ((¬ (b < 0)) ∧ (¬ (256 < b))) then ((if ((S 13 9) = 0) then (3 : Int32) else 0) : Int32) else 2) : Int32) else 1)) 83 a.toNatClampNeg b) ) (zr_2_0 i227_46 (zr_6 i227_47 fl_13_3 ((zupci rfl).trans (zupf rfl)) (zt_trans (zt_cast (zr_19_1 i227_48 (fun h2117 => zr_0 i227_49 kc_1 (zr_17 i227_50 (zt_rfl))) (fun h2118 => zr_0 i227_51 kc_0 (zt_rfl))) (zm_c zz_s (zl_c (zl_t zz_10) zz_s) zz_s)) (zr_3_5 i227_52 (zr_2_0 i227_53 (zr_0 i227_54 kc_0 (zr_33 i227_55 fl_13_9 (zo_0) (zr_2_0 i227_56 (zr_cn (zs_21_0 i227_57 na_214 ob_13 rfl) (f214  (z_up (z_up (z_up S 13 0 (if ((¬ (a < 1)) ∧ (¬ ((S 13 4) < a))) then ((if ((¬ (b < 0)) ∧ (¬ (256 < b))) then ((if ((S 13 9) = 0) then (3 : Int32) else 0) : Int32) else 2) : Int32) else 1)) 83 a.toNatClampNeg b) 13 9 0) ) (zr_1_5 i227_58 (zt_trans (zt_cast (zr_18b_0 i227_59 (fun h2119 => zr_2_0 i227_60 (zr_2_0 i227_61 (zr_6 i227_62 fl_13_10 rfl (zr_2_0 i227_63 (zr_6 i227_64 fl_13_11 rfl (zr_2_0 i227_65 (zr_6 i227_66 fl_13_12 rfl (zr_cn (zs_21_3 i227_67 na_216 ob_13 rfl) (f216 ((K214_2_S 0 (z_up (z_up (z_up S 13 0 (if ((¬ (a < 1)) ∧ (¬ ((S 13 4) < a))) then ((if ((¬ (b < 0)) ∧ (¬ (256 < b))) then ((if ((S 13 9) = 0) then (3 : Int32) else 0) : Int32) else 2) : Int32) else 1)) 83 a.toNatClampNeg b) 13 9 0)) 13 10) ((K214_2_S 0 (z_up (z_up (z_up S 13 0 (if ((¬ (a < 1)) ∧ (¬ ((S 13 4) < a))) then ((if ((¬ (b < 0)) ∧ (¬ (256 < b))) then ((if ((S 13 9) = 0) then (3 : Int32) else 0) : Int32) else 2) : Int32) else 1)) 83 a.toNatClampNeg b) 13 9 0)) 13 11) ((K214_2_S 0 (z_up (z_up (z_up S 13 0 (if ((¬ (a < 1)) ∧ (¬ ((S 13 4) < a))) then ((if ((¬ (b < 0)) ∧ (¬ (256 < b))) then ((if ((S 13 9) = 0) then (3 : Int32) else 0) : Int32) else 2) : Int32) else 1)) 83 a.toNatClampNeg b) 13 9 0)) 13 12) (K214_2_S 0 (z_up (z_up (z_up S 13 0 (if ((¬ (a < 1)) ∧ (¬ ((S 13 4) < a))) then ((if ((¬ (b < 0)) ∧ (¬ (256 < b))) then ((if ((S 13 9) = 0) then (3 : Int32) else 0) : Int32) else 2) : Int32) else 1)) 83 a.toNatClampNeg b) 13 9 0)) (znv ((w_K214_2_S_13_11 _ _).trans ((zupf rfl).trans ((zupci rfl).trans (zupf rfl)))) (g1)) (znv ((w_K214_2_S_13_12 _ _).trans ((zupf rfl).trans ((zupci rfl).trans (zupf rfl)))) (g2))) (zt_rfl))))))))) (fun h2120 => zt_rfl)) (zm_c zz_s zz_s zz_e)) (zr_0 i227_68 kc_0 (zr_25 i227_69)))))))))))))))) (fun h2116 => zr_1_4 i227_41 (zr_25 i227_42))) (zm_r zz_e zz_e)))))))))))))) (fun h2114 => zr_0 i227_26 kc_0 (zr_25 i227_27))) (zm_r zz_e zz_e))))))))))))
