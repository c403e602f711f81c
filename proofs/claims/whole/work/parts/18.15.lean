/-! the methods with loops, and what calls them (wip/whole/gen/gen18.py) -/
theorem i252_0 : zi 252 0 1 2 0 0 := by decide +kernel
theorem i252_1 : zi 252 1 2 6 12 49 := by decide +kernel
theorem i252_2 : zi 252 2 3 1 1 0 := by decide +kernel
theorem i252_3 : zi 252 3 4 8 0 0 := by decide +kernel
theorem i252_4 : zi 252 4 5 3 2 0 := by decide +kernel
theorem i252_5 : zi 252 5 6 2 0 0 := by decide +kernel
theorem i252_6 : zi 252 6 7 6 12 48 := by decide +kernel
theorem i252_7 : zi 252 7 8 1 1 0 := by decide +kernel
theorem i252_8 : zi 252 8 9 8 0 0 := by decide +kernel
theorem i252_9 : zi 252 9 10 3 3 0 := by decide +kernel
theorem i252_10 : zi 252 10 11 1 3 0 := by decide +kernel
theorem i252_11 : zi 252 11 12 0 0 (-1) := by decide +kernel
theorem i252_12 : zi 252 12 13 19 47 0 := by decide +kernel
theorem i252_13 : zi 252 13 14 2 0 0 := by decide +kernel
theorem i252_14 : zi 252 14 15 1 3 0 := by decide +kernel
theorem i252_15 : zi 252 15 16 21 251 12 := by decide +kernel
theorem na_251 : z_na 251 = 1 := by decide +kernel
theorem i252_16 : zi 252 16 17 3 4 0 := by decide +kernel
theorem i252_17 : zi 252 17 18 1 2 0 := by decide +kernel
theorem i252_18 : zi 252 18 19 2 0 0 := by decide +kernel
theorem i252_19 : zi 252 19 20 6 12 40 := by decide +kernel
theorem i252_20 : zi 252 20 21 1 3 0 := by decide +kernel
theorem i252_21 : zi 252 21 22 8 0 0 := by decide +kernel
theorem i252_22 : zi 252 22 23 13 6 0 := by decide +kernel
theorem i252_23 : zi 252 23 24 3 2 0 := by decide +kernel
theorem i252_24 : zi 252 24 25 0 0 0 := by decide +kernel
theorem i252_25 : zi 252 25 26 3 5 0 := by decide +kernel
theorem i252_47 : zi 252 47 48 1 2 0 := by decide +kernel
theorem i252_48 : zi 252 48 49 25 0 0 := by decide +kernel
theorem i252_26 : zi 252 26 27 1 5 0 := by decide +kernel
theorem i252_27 : zi 252 27 28 0 0 4 := by decide +kernel
theorem i252_28 : zi 252 28 29 19 47 3 := by decide +kernel
theorem i252_29 : zi 252 29 30 1 2 0 := by decide +kernel
theorem i252_30 : zi 252 30 31 1 4 0 := by decide +kernel
theorem i252_31 : zi 252 31 32 1 5 0 := by decide +kernel
theorem i252_32 : zi 252 32 33 13 9 0 := by decide +kernel
theorem i252_33 : zi 252 33 34 0 0 1 := by decide +kernel
theorem i252_34 : zi 252 34 35 13 5 0 := by decide +kernel
theorem i252_35 : zi 252 35 36 0 0 1 := by decide +kernel
theorem i252_36 : zi 252 36 37 19 42 1 := by decide +kernel
theorem i252_37 : zi 252 37 38 2 0 0 := by decide +kernel
theorem i252_38 : zi 252 38 39 6 12 41 := by decide +kernel
theorem i252_39 : zi 252 39 40 1 5 0 := by decide +kernel
theorem i252_40 : zi 252 40 41 8 0 0 := by decide +kernel
theorem i252_41 : zi 252 41 42 17 43 0 := by decide +kernel
theorem i252_42 : zi 252 42 43 0 0 0 := by decide +kernel
theorem i252_43 : zi 252 43 44 13 6 0 := by decide +kernel
theorem i252_44 : zi 252 44 45 3 2 0 := by decide +kernel
theorem i252_45 : zi 252 45 46 5 5 1 := by decide +kernel
theorem i252_46 : zi 252 46 47 17 26 0 := by decide +kernel
theorem ml_252 : z_ml 252 = 6 := by decide +kernel
theorem en_252 : ∀ (v0 v1 : zV), z_ent 252 [v0, v1] = [some v0, some v1, none, none, none, none] := fun v0 v1 => by unfold z_ent; rw [ml_252]; rfl
theorem i255_0 : zi 255 0 1 0 0 1 := by decide +kernel
theorem i255_1 : zi 255 1 2 3 4 0 := by decide +kernel
theorem i255_2 : zi 255 2 3 0 0 0 := by decide +kernel
theorem i255_3 : zi 255 3 4 3 5 0 := by decide +kernel
theorem i255_4 : zi 255 4 5 0 0 0 := by decide +kernel
theorem i255_5 : zi 255 5 6 3 6 0 := by decide +kernel
theorem i255_6 : zi 255 6 7 1 6 0 := by decide +kernel
theorem i255_7 : zi 255 7 8 0 0 3 := by decide +kernel
theorem i255_8 : zi 255 8 9 19 65 3 := by decide +kernel
theorem i255_9 : zi 255 9 10 2 0 0 := by decide +kernel
theorem i255_10 : zi 255 10 11 6 12 38 := by decide +kernel
theorem i255_11 : zi 255 11 12 0 0 5 := by decide +kernel
theorem i255_12 : zi 255 12 13 1 1 0 := by decide +kernel
theorem i255_13 : zi 255 13 14 13 2 0 := by decide +kernel
theorem i255_14 : zi 255 14 15 1 6 0 := by decide +kernel
theorem i255_15 : zi 255 15 16 13 0 0 := by decide +kernel
theorem i255_16 : zi 255 16 17 8 0 0 := by decide +kernel
theorem i255_17 : zi 255 17 18 3 7 0 := by decide +kernel
theorem i255_18 : zi 255 18 19 1 5 0 := by decide +kernel
theorem i255_19 : zi 255 19 20 18 23 1 := by decide +kernel
theorem i255_20 : zi 255 20 21 1 7 0 := by decide +kernel
theorem i255_21 : zi 255 21 22 0 0 8 := by decide +kernel
theorem i255_22 : zi 255 22 23 19 25 1 := by decide +kernel
theorem i255_23 : zi 255 23 24 0 0 1 := by decide +kernel
theorem i255_24 : zi 255 24 25 17 26 0 := by decide +kernel
theorem i255_25 : zi 255 25 26 0 0 0 := by decide +kernel
theorem i255_26 : zi 255 26 27 3 5 0 := by decide +kernel
theorem i255_27 : zi 255 27 28 1 7 0 := by decide +kernel
theorem i255_28 : zi 255 28 29 0 0 6 := by decide +kernel
theorem i255_29 : zi 255 29 30 19 49 0 := by decide +kernel
theorem i255_49 : zi 255 49 50 0 0 1 := by decide +kernel
theorem i255_50 : zi 255 50 51 17 52 0 := by decide +kernel
theorem i255_30 : zi 255 30 31 1 7 0 := by decide +kernel
theorem i255_31 : zi 255 31 32 0 0 7 := by decide +kernel
theorem i255_32 : zi 255 32 33 19 44 1 := by decide +kernel
theorem i255_33 : zi 255 33 34 1 3 0 := by decide +kernel
theorem i255_34 : zi 255 34 35 0 0 (-1) := by decide +kernel
theorem i255_35 : zi 255 35 36 19 51 0 := by decide +kernel
theorem i255_51 : zi 255 51 52 0 0 0 := by decide +kernel
theorem i255_36 : zi 255 36 37 1 3 0 := by decide +kernel
theorem i255_37 : zi 255 37 38 0 0 6 := by decide +kernel
theorem i255_38 : zi 255 38 39 13 4 0 := by decide +kernel
theorem i255_39 : zi 255 39 40 1 2 0 := by decide +kernel
theorem i255_40 : zi 255 40 41 1 6 0 := by decide +kernel
theorem i255_41 : zi 255 41 42 22 253 0 := by decide +kernel
theorem i255_42 : zi 255 42 43 19 51 1 := by decide +kernel
theorem i255_43 : zi 255 43 44 17 49 0 := by decide +kernel
theorem i255_44 : zi 255 44 45 1 7 0 := by decide +kernel
theorem i255_45 : zi 255 45 46 1 2 0 := by decide +kernel
theorem i255_46 : zi 255 46 47 1 6 0 := by decide +kernel
theorem i255_47 : zi 255 47 48 22 253 0 := by decide +kernel
theorem i255_48 : zi 255 48 49 19 51 1 := by decide +kernel
theorem i255_52 : zi 255 52 53 3 8 0 := by decide +kernel
theorem i255_53 : zi 255 53 54 1 4 0 := by decide +kernel
theorem i255_54 : zi 255 54 55 18 61 0 := by decide +kernel
theorem i255_55 : zi 255 55 56 1 5 0 := by decide +kernel
theorem i255_56 : zi 255 56 57 18 59 1 := by decide +kernel
theorem i255_59 : zi 255 59 60 0 0 1 := by decide +kernel
theorem i255_60 : zi 255 60 61 17 62 0 := by decide +kernel
theorem i255_57 : zi 255 57 58 1 8 0 := by decide +kernel
theorem i255_58 : zi 255 58 59 18 61 0 := by decide +kernel
theorem i255_61 : zi 255 61 62 0 0 0 := by decide +kernel
theorem i255_62 : zi 255 62 63 3 4 0 := by decide +kernel
theorem i255_63 : zi 255 63 64 5 6 1 := by decide +kernel
theorem i255_64 : zi 255 64 65 17 6 0 := by decide +kernel
theorem i255_65 : zi 255 65 66 1 4 0 := by decide +kernel
theorem i255_66 : zi 255 66 67 26 0 0 := by decide +kernel
theorem ml_255 : z_ml 255 = 9 := by decide +kernel
theorem en_255 : ∀ (v0 v1 v2 v3 : zV), z_ent 255 [v0, v1, v2, v3] = [some v0, some v1, some v2, some v3, none, none, none, none, none] := fun v0 v1 v2 v3 => by unfold z_ent; rw [ml_255]; rfl
theorem i256_0 : zi 256 0 1 0 0 0 := by decide +kernel
theorem i256_1 : zi 256 1 2 3 3 0 := by decide +kernel
theorem i256_2 : zi 256 2 3 1 3 0 := by decide +kernel
theorem i256_3 : zi 256 3 4 0 0 3 := by decide +kernel
theorem i256_4 : zi 256 4 5 19 32 3 := by decide +kernel
theorem i256_5 : zi 256 5 6 2 0 0 := by decide +kernel
theorem i256_6 : zi 256 6 7 1 1 0 := by decide +kernel
theorem i256_7 : zi 256 7 8 1 3 0 := by decide +kernel
theorem i256_8 : zi 256 8 9 21 254 12 := by decide +kernel
theorem na_254 : z_na 254 = 2 := by decide +kernel
theorem i256_9 : zi 256 9 10 2 0 0 := by decide +kernel
theorem i256_10 : zi 256 10 11 1 2 0 := by decide +kernel
theorem i256_11 : zi 256 11 12 1 3 0 := by decide +kernel
theorem i256_12 : zi 256 12 13 21 254 12 := by decide +kernel
theorem i256_13 : zi 256 13 14 13 1 0 := by decide +kernel
theorem i256_14 : zi 256 14 15 3 4 0 := by decide +kernel
theorem i256_15 : zi 256 15 16 1 4 0 := by decide +kernel
theorem i256_16 : zi 256 16 17 18 23 0 := by decide +kernel
theorem i256_23 : zi 256 23 24 2 0 0 := by decide +kernel
theorem i256_24 : zi 256 24 25 1 1 0 := by decide +kernel
theorem i256_25 : zi 256 25 26 1 3 0 := by decide +kernel
theorem i256_26 : zi 256 26 27 21 254 12 := by decide +kernel
theorem i256_27 : zi 256 27 28 18 30 1 := by decide +kernel
theorem i256_28 : zi 256 28 29 0 0 0 := by decide +kernel
theorem i256_29 : zi 256 29 30 25 0 0 := by decide +kernel
theorem i256_30 : zi 256 30 31 5 3 1 := by decide +kernel
theorem i256_31 : zi 256 31 32 17 2 0 := by decide +kernel
theorem i256_32 : zi 256 32 33 0 0 0 := by decide +kernel
theorem i256_33 : zi 256 33 34 25 0 0 := by decide +kernel
theorem i256_17 : zi 256 17 18 1 4 0 := by decide +kernel
theorem i256_18 : zi 256 18 19 18 21 5 := by decide +kernel
theorem i256_21 : zi 256 21 22 0 0 (-1) := by decide +kernel
theorem i256_19 : zi 256 19 20 0 0 1 := by decide +kernel
theorem i256_20 : zi 256 20 21 17 22 0 := by decide +kernel
theorem i256_22 : zi 256 22 23 25 0 0 := by decide +kernel
theorem ml_256 : z_ml 256 = 5 := by decide +kernel
theorem en_256 : ∀ (v0 v1 v2 : zV), z_ent 256 [v0, v1, v2] = [some v0, some v1, some v2, none, none] := fun v0 v1 v2 => by unfold z_ent; rw [ml_256]; rfl
set_option maxRecDepth 100000 in
theorem s252_26 {L : Nat} (x1 x2 x3 x4 x5 : Int32) (S : zS) (g0 : (¬ (4 ≤ x5)) → (((zshr x4 x5) &&& 1) = 1) → zx 4 x5) : zt L 252 26 [some (.inr (.inr 13)), some (.inl x1), some (.inl x2), some (.inl x3), some (.inl x4), some (.inl x5)] [] S (if (4 ≤ x5) then (.inl (47, [some (.inr (.inr 13)), some (.inl x1), some (.inl x2), some (.inl x3), some (.inl x4), some (.inl x5)], [], S)) else (.inl (26, [some (.inr (.inr 13)), some (.inl x1), some (.inl (x2 ||| (if (((zshr x4 x5) &&& 1) = 1) then ((S 105 x5.toNatClampNeg) : Int32) else 0))), some (.inl x3), some (.inl x4), some (.inl (x5 + 1))], [], S))) := zr_1_5 i252_26 (zr_0 i252_27 kc_4 (zr_19_3 i252_28 (fun h2437 => zt_rfl) (fun h2438 => zr_1_2 i252_29 (zr_1_4 i252_30 (zr_1_5 i252_31 (zr_13_9 i252_32 (zr_0 i252_33 kc_1 (zr_13_5 i252_34 (zr_0 i252_35 kc_1 (zt_trans (zt_cast (zr_19_1 i252_36 (fun h2439 => zr_2_0 i252_37 (zr_6r i252_38 fl_13_41 (zr_1_5 i252_39 (zr_8 i252_40 ar_105 (g0 h2438 h2439) rfl rfl (zr_17 i252_41 (zt_rfl)))))) (fun h2440 => zr_0 i252_42 kc_0 (zt_rfl))) (zm_c zz_s (zl_c (zl_t zz_e) zz_s) zz_s)) (zr_13_6 i252_43 (zr_3_2 i252_44 (zr_5_5 i252_45 kc_1 (zr_17 i252_46 (zt_rfl)))))))))))))))
def k252_26 (x1 x3 x4 : Int32) (S : zS) (j : Nat) (a : Int32) : Int32 := (a ||| (if (((zshr x4 (Int32.ofNat j)) &&& 1) = 1) then ((S 105 j) : Int32) else 0))
set_option maxRecDepth 100000 in
theorem l252_26 {L : Nat} (x1 x3 x4 : Int32) (S : zS) (i0 n : Nat) (a : Int32) (hn : i0 + n < 2147483648) (hc0 : ∀ j, j < n → ¬ (4 ≤ (Int32.ofNat (i0 + j)))) (g0 : ∀ j, j < n → (¬ (4 ≤ (Int32.ofNat (i0 + j)))) → (((zshr x4 (Int32.ofNat (i0 + j))) &&& 1) = 1) → zx 4 (Int32.ofNat (i0 + j))) : zt L 252 26 [some (.inr (.inr 13)), some (.inl x1), some (.inl a), some (.inl x3), some (.inl x4), some (.inl (Int32.ofNat i0))] [] S (.inl (26, [some (.inr (.inr 13)), some (.inl x1), some (.inl (zfold (k252_26 x1 x3 x4 S) i0 n a)), some (.inl x3), some (.inl x4), some (.inl (Int32.ofNat (i0 + n)))], [], S)) := by
  induction n with
  | zero => exact zt_rfl
  | succ n ih =>
    have e1 := zk_ix (i0 + n) (by omega)
    have e2 := zk_add (i0 + n)
    refine zt_trans (ih (by omega) (fun j hj => hc0 j (by omega)) (fun j hj => g0 j (by omega))) ?_
    refine zt_cast (s252_26 x1 (zfold (k252_26 x1 x3 x4 S) i0 n a) x3 x4 (Int32.ofNat (i0 + n)) S (by have hg := g0 n (by omega); first | exact hg | (simp only [e1]; exact hg))) ?_
    rw [if_neg (show ¬ (4 ≤ (Int32.ofNat (i0 + n))) from (by have hg := hc0 n (by omega); first | exact hg | (simp only [e1]; exact hg)))]
    simp only [zfold, k252_26, e1, e2, ← Nat.add_assoc]
def K252_26 (x1 x2 x3 x4 : Int32) (i0 : Nat) (S : zS) : Int32 := zfold (k252_26 x1 x3 x4 S) i0 (4 - i0) x2
def K252_26_c2 (x1 x2 x3 x4 : Int32) (i0 : Nat) (S : zS) : Int32 := (K252_26 x1 x2 x3 x4 i0 S)
set_option maxRecDepth 100000 in
theorem L252_26 {L : Nat} (x1 x2 x3 x4 : Int32) (i0 : Nat) (S : zS) (hi : i0 ≤ 10000) : zt L 252 26 [some (.inr (.inr 13)), some (.inl x1), some (.inl x2), some (.inl x3), some (.inl x4), some (.inl (Int32.ofNat i0))] [] S (.inl (47, [some (.inr (.inr 13)), some (.inl x1), some (.inl (K252_26_c2 x1 x2 x3 x4 i0 S)), some (.inl x3), some (.inl x4), some (.inl (Int32.ofNat (i0 + (4 - i0))))], [], S)) := by
  have hend : 4 ≤ Int32.ofNat (i0 + (4 - i0)) := by exact zc_le_end (show zn 4 4 from by unfold zn; decide) (by omega)
  refine zt_trans (l252_26 x1 x3 x4  S i0 (4 - i0) x2 (by omega) (fun j hj => by exact zc_le (show zn 4 4 from by unfold zn; decide) hj (by omega)) (fun j hj _ _ => by exact zx_of (by omega) (by omega))) ?_
  exact zt_cast (s252_26 x1 (zfold (k252_26 x1 x3 x4 S) i0 (4 - i0) x2) x3 x4 (Int32.ofNat (i0 + (4 - i0))) S (fun h9 => absurd hend h9)) (if_pos hend)
def F252 (a : Int32) (S : zS) : Int32 := (if ((S 111 a.toNatClampNeg) = (-1)) then ((S 112 a.toNatClampNeg) : Int32) else (K252_26_c2 a ((S 112 a.toNatClampNeg) ||| (S 104 (S 111 a.toNatClampNeg).toNatClampNeg)) (S 111 a.toNatClampNeg) (K251_4_c2 (S 111 a.toNatClampNeg) 0 (-1) (none : Option zV) (none : Option zV) S) 0 S))
set_option maxRecDepth 100000 in
theorem f252 {L : Nat} (a : Int32) (S : zS) (g0 : zx 40 a) (g1 : (¬ ((S 111 a.toNatClampNeg) = (-1))) → zx 8 (S 111 a.toNatClampNeg)) : zf L 252 [.inr (.inr 13), .inl a] S (.inl (some (.inl (F252 a S))), S, 0) := zf_of (en_252 _ _) (zr_2_0 i252_0 (zr_6r i252_1 fl_13_49 (zr_1_1 i252_2 (zr_8 i252_3 ar_112 (g0) rfl rfl (zr_3_2 i252_4 (zr_2_0 i252_5 (zr_6r i252_6 fl_13_48 (zr_1_1 i252_7 (zr_8 i252_8 ar_111 (g0) rfl rfl (zr_3_3 i252_9 (zr_1_3 i252_10 (zr_0 i252_11 kc_m1 (zt_trans (zt_cast (zr_19_0 i252_12 (fun h2441 => zt_rfl) (fun h2442 => zr_2_0 i252_13 (zr_1_3 i252_14 (zr_cv (zs_21_1 i252_15 na_251 ob_13 rfl) (f251 (S 111 a.toNatClampNeg) S ) (zr_3_4 i252_16 (zr_1_2 i252_17 (zr_2_0 i252_18 (zr_6r i252_19 fl_13_40 (zr_1_3 i252_20 (zr_8 i252_21 ar_104 (g1 h2442) rfl rfl (zr_13_6 i252_22 (zr_3_2 i252_23 (zr_0 i252_24 kc_0 (zr_3_5 i252_25 (zt_trans (L252_26 a ((S 112 a.toNatClampNeg) ||| (S 104 (S 111 a.toNatClampNeg).toNatClampNeg)) (S 111 a.toNatClampNeg) (K251_4_c2 (S 111 a.toNatClampNeg) 0 (-1) (none : Option zV) (none : Option zV) S) 0 S (by decide) ) (zt_rfl)))))))))))))))) (zm_c (zl_c zz_s (zl_c zz_s (zl_c (zl_v zz_e) (zl_c zz_s (zl_c zz_e (zl_c zz_e zz_s)))))) zz_s zz_s)) (zr_1_2 i252_47 (zr_25 i252_48)))))))))))))))
def F255 (a b c : Int32) (S : zS) : Int32 := (zb (((((S 102 ((5 * a) + 0).toNatClampNeg) = 8) ∨ (((S 102 ((5 * a) + 0).toNatClampNeg) = 6) ∨ (if ((S 102 ((5 * a) + 0).toNatClampNeg) = 7) then ((¬ (c = (-1))) ∧ ((zrem c 6) = (if (0 = 0) then ((b / 36) : Int32) else (if (0 = 1) then ((zrem (b / 6) 6) : Int32) else (zrem b 6))))) else ((S 102 ((5 * a) + 0).toNatClampNeg) = (if (0 = 0) then ((b / 36) : Int32) else (if (0 = 1) then ((zrem (b / 6) 6) : Int32) else (zrem b 6))))))) ∧ ((((S 102 ((5 * a) + 0).toNatClampNeg) = 8) ∨ ((S 102 ((5 * a) + 1).toNatClampNeg) = 8)) ∨ (((S 102 ((5 * a) + 1).toNatClampNeg) = 6) ∨ (if ((S 102 ((5 * a) + 1).toNatClampNeg) = 7) then ((¬ (c = (-1))) ∧ ((zrem c 6) = (if (1 = 0) then ((b / 36) : Int32) else (if (1 = 1) then ((zrem (b / 6) 6) : Int32) else (zrem b 6))))) else ((S 102 ((5 * a) + 1).toNatClampNeg) = (if (1 = 0) then ((b / 36) : Int32) else (if (1 = 1) then ((zrem (b / 6) 6) : Int32) else (zrem b 6)))))))) ∧ (((((S 102 ((5 * a) + 0).toNatClampNeg) = 8) ∨ ((S 102 ((5 * a) + 1).toNatClampNeg) = 8)) ∨ ((S 102 ((5 * a) + 2).toNatClampNeg) = 8)) ∨ (((S 102 ((5 * a) + 2).toNatClampNeg) = 6) ∨ (if ((S 102 ((5 * a) + 2).toNatClampNeg) = 7) then ((¬ (c = (-1))) ∧ ((zrem c 6) = (if (2 = 0) then ((b / 36) : Int32) else (if (2 = 1) then ((zrem (b / 6) 6) : Int32) else (zrem b 6))))) else ((S 102 ((5 * a) + 2).toNatClampNeg) = (if (2 = 0) then ((b / 36) : Int32) else (if (2 = 1) then ((zrem (b / 6) 6) : Int32) else (zrem b 6)))))))))
set_option maxRecDepth 100000 in
theorem f255 {L : Nat} (a b c : Int32) (S : zS) (g0 : zx 200 ((5 * a) + 0)) (g1 : zx 200 ((5 * a) + 1)) (g2 : zx 200 ((5 * a) + 2)) : zf L 255 [.inr (.inr 13), .inl a, .inl b, .inl c] S (.inl (some (.inl (F255 a b c S))), S, 0) := zf_of (en_255 _ _ _ _) (zr_0 i255_0 kc_1 (zr_3_4 i255_1 (zr_0 i255_2 kc_0 (zr_3_5 i255_3 (zr_0 i255_4 kc_0 (zr_3_6 i255_5 (zr_1_6 i255_6 (zr_0 i255_7 kc_3 (zr_19f_3 i255_8 (by decide) (zr_2_0 i255_9 (zr_6r i255_10 fl_13_38 (zr_0 i255_11 kc_5 (zr_1_1 i255_12 (zr_13_2 i255_13 (zr_1_6 i255_14 (zr_13_0 i255_15 (zr_8 i255_16 ar_102 (g0) rfl rfl (zr_3_7 i255_17 (zr_1_5 i255_18 (zr_18f_1 i255_19 (by decide) (zr_1_7 i255_20 (zr_0 i255_21 kc_8 (zt_trans (zt_cast (zr_19_1 i255_22 (fun h2443 => zr_0 i255_23 kc_1 (zr_17 i255_24 (zt_rfl))) (fun h2444 => zr_0 i255_25 kc_0 (zt_rfl))) (zm_c zz_s (zl_c (zl_t zz_10) zz_s) zz_s)) (zr_3_5 i255_26 (zr_1_7 i255_27 (zr_0 i255_28 kc_6 (zt_trans (zt_cast (zr_19_0 i255_29 (fun h2445 => zr_0 i255_49 kc_1 (zr_17 i255_50 (zt_rfl))) (fun h2446 => zr_1_7 i255_30 (zr_0 i255_31 kc_7 (zt_cast (zr_19_1 i255_32 (fun h2447 => zr_1_3 i255_33 (zr_0 i255_34 kc_m1 (zt_cast (zr_19_0 i255_35 (fun h2449 => zr_0 i255_51 kc_0 (zt_rfl)) (fun h2450 => zr_1_3 i255_36 (zr_0 i255_37 kc_6 (zr_13_4 i255_38 nz_6 (zr_1_2 i255_39 (zr_1_6 i255_40 (zr_cv (zs_22_2 i255_41 na_253 rfl) (f253 b 0 S ) (zt_cast (zr_19_1 i255_42 (fun h2451 => zr_17 i255_43 (zr_0 i255_49 kc_1 (zr_17 i255_50 (zt_rfl)))) (fun h2452 => zr_0 i255_51 kc_0 (zt_rfl))) (zm_c zz_s (zl_c (zl_t zz_10) zz_s) zz_s))))))))) (zm_c zz_s (zl_c (zl_t zz_0b) zz_s) zz_s)))) (fun h2448 => zr_1_7 i255_44 (zr_1_2 i255_45 (zr_1_6 i255_46 (zr_cv (zs_22_2 i255_47 na_253 rfl) (f253 b 0 S ) (zt_cast (zr_19_1 i255_48 (fun h2453 => zr_0 i255_49 kc_1 (zr_17 i255_50 (zt_rfl))) (fun h2454 => zr_0 i255_51 kc_0 (zt_rfl))) (zm_c zz_s (zl_c (zl_t zz_10) zz_s) zz_s))))))) (zm_c zz_s (zl_c (zl_t zz_bb) zz_s) zz_s))))) (zm_c zz_s (zl_c (zl_t zz_1b) zz_s) zz_s)) (zr_3_8 i255_52 (zr_1_4 i255_53 (zr_18f_0 i255_54 (by decide) (zr_1_5 i255_55 (zt_trans (zt_cast (zr_18b_1 i255_56 (fun h2455 => zr_0 i255_59 kc_1 (zr_17 i255_60 (zt_rfl))) (fun h2456 => zr_1_8 i255_57 (zt_cast (zr_18b_0 i255_58 (fun h2457 => zr_0 i255_59 kc_1 (zr_17 i255_60 (zt_rfl))) (fun h2458 => zr_0 i255_61 kc_0 (zt_rfl))) (zm_c zz_s (zl_c (zl_t zz_10) zz_s) zz_s)))) (zm_c zz_s (zl_c (zl_t zz_1b) zz_s) zz_s)) (zr_3_4 i255_62 (zr_5c_6 i255_63 kc_1 ka_0_1 (zr_17 i255_64 (zr_1_6 i255_6 (zr_0 i255_7 kc_3 (zr_19f_3 i255_8 (by decide) (zr_2_0 i255_9 (zr_6r i255_10 fl_13_38 (zr_0 i255_11 kc_5 (zr_1_1 i255_12 (zr_13_2 i255_13 (zr_1_6 i255_14 (zr_13_0 i255_15 (zr_8 i255_16 ar_102 (g1) rfl rfl (zr_3_7 i255_17 (zr_1_5 i255_18 (zt_trans (zt_cast (zr_18b_1 i255_19 (fun h2459 => zr_0 i255_23 kc_1 (zr_17 i255_24 (zt_rfl))) (fun h2460 => zr_1_7 i255_20 (zr_0 i255_21 kc_8 (zt_cast (zr_19_1 i255_22 (fun h2461 => zr_0 i255_23 kc_1 (zr_17 i255_24 (zt_rfl))) (fun h2462 => zr_0 i255_25 kc_0 (zt_rfl))) (zm_c zz_s (zl_c (zl_t zz_10) zz_s) zz_s))))) (zm_c zz_s (zl_c (zl_t zz_1b) zz_s) zz_s)) (zr_3_5 i255_26 (zr_1_7 i255_27 (zr_0 i255_28 kc_6 (zt_trans (zt_cast (zr_19_0 i255_29 (fun h2463 => zr_0 i255_49 kc_1 (zr_17 i255_50 (zt_rfl))) (fun h2464 => zr_1_7 i255_30 (zr_0 i255_31 kc_7 (zt_cast (zr_19_1 i255_32 (fun h2465 => zr_1_3 i255_33 (zr_0 i255_34 kc_m1 (zt_cast (zr_19_0 i255_35 (fun h2467 => zr_0 i255_51 kc_0 (zt_rfl)) (fun h2468 => zr_1_3 i255_36 (zr_0 i255_37 kc_6 (zr_13_4 i255_38 nz_6 (zr_1_2 i255_39 (zr_1_6 i255_40 (zr_cv (zs_22_2 i255_41 na_253 rfl) (f253 b 1 S ) (zt_cast (zr_19_1 i255_42 (fun h2469 => zr_17 i255_43 (zr_0 i255_49 kc_1 (zr_17 i255_50 (zt_rfl)))) (fun h2470 => zr_0 i255_51 kc_0 (zt_rfl))) (zm_c zz_s (zl_c (zl_t zz_10) zz_s) zz_s))))))))) (zm_c zz_s (zl_c (zl_t zz_0b) zz_s) zz_s)))) (fun h2466 => zr_1_7 i255_44 (zr_1_2 i255_45 (zr_1_6 i255_46 (zr_cv (zs_22_2 i255_47 na_253 rfl) (f253 b 1 S ) (zt_cast (zr_19_1 i255_48 (fun h2471 => zr_0 i255_49 kc_1 (zr_17 i255_50 (zt_rfl))) (fun h2472 => zr_0 i255_51 kc_0 (zt_rfl))) (zm_c zz_s (zl_c (zl_t zz_10) zz_s) zz_s))))))) (zm_c zz_s (zl_c (zl_t zz_bb) zz_s) zz_s))))) (zm_c zz_s (zl_c (zl_t zz_1b) zz_s) zz_s)) (zr_3_8 i255_52 (zr_1_4 i255_53 (zt_trans (zt_cast (zr_18b_0 i255_54 (fun h2473 => zr_1_5 i255_55 (zt_cast (zr_18b_1 i255_56 (fun h2475 => zr_0 i255_59 kc_1 (zr_17 i255_60 (zt_rfl))) (fun h2476 => zr_1_8 i255_57 (zt_cast (zr_18b_0 i255_58 (fun h2477 => zr_0 i255_59 kc_1 (zr_17 i255_60 (zt_rfl))) (fun h2478 => zr_0 i255_61 kc_0 (zt_rfl))) (zm_c zz_s (zl_c (zl_t zz_10) zz_s) zz_s)))) (zm_c zz_s (zl_c (zl_t zz_1b) zz_s) zz_s))) (fun h2474 => zr_0 i255_61 kc_0 (zt_rfl))) (zm_c zz_s (zl_c (zl_t zz_b0) zz_s) zz_s)) (zr_3_4 i255_62 (zr_5c_6 i255_63 kc_1 ka_1_1 (zr_17 i255_64 (zr_1_6 i255_6 (zr_0 i255_7 kc_3 (zr_19f_3 i255_8 (by decide) (zr_2_0 i255_9 (zr_6r i255_10 fl_13_38 (zr_0 i255_11 kc_5 (zr_1_1 i255_12 (zr_13_2 i255_13 (zr_1_6 i255_14 (zr_13_0 i255_15 (zr_8 i255_16 ar_102 (g2) rfl rfl (zr_3_7 i255_17 (zr_1_5 i255_18 (zt_trans (zt_cast (zr_18b_1 i255_19 (fun h2479 => zr_0 i255_23 kc_1 (zr_17 i255_24 (zt_rfl))) (fun h2480 => zr_1_7 i255_20 (zr_0 i255_21 kc_8 (zt_cast (zr_19_1 i255_22 (fun h2481 => zr_0 i255_23 kc_1 (zr_17 i255_24 (zt_rfl))) (fun h2482 => zr_0 i255_25 kc_0 (zt_rfl))) (zm_c zz_s (zl_c (zl_t zz_10) zz_s) zz_s))))) (zm_c zz_s (zl_c (zl_t zz_1b) zz_s) zz_s)) (zr_3_5 i255_26 (zr_1_7 i255_27 (zr_0 i255_28 kc_6 (zt_trans (zt_cast (zr_19_0 i255_29 (fun h2483 => zr_0 i255_49 kc_1 (zr_17 i255_50 (zt_rfl))) (fun h2484 => zr_1_7 i255_30 (zr_0 i255_31 kc_7 (zt_cast (zr_19_1 i255_32 (fun h2485 => zr_1_3 i255_33 (zr_0 i255_34 kc_m1 (zt_cast (zr_19_0 i255_35 (fun h2487 => zr_0 i255_51 kc_0 (zt_rfl)) (fun h2488 => zr_1_3 i255_36 (zr_0 i255_37 kc_6 (zr_13_4 i255_38 nz_6 (zr_1_2 i255_39 (zr_1_6 i255_40 (zr_cv (zs_22_2 i255_41 na_253 rfl) (f253 b 2 S ) (zt_cast (zr_19_1 i255_42 (fun h2489 => zr_17 i255_43 (zr_0 i255_49 kc_1 (zr_17 i255_50 (zt_rfl)))) (fun h2490 => zr_0 i255_51 kc_0 (zt_rfl))) (zm_c zz_s (zl_c (zl_t zz_10) zz_s) zz_s))))))))) (zm_c zz_s (zl_c (zl_t zz_0b) zz_s) zz_s)))) (fun h2486 => zr_1_7 i255_44 (zr_1_2 i255_45 (zr_1_6 i255_46 (zr_cv (zs_22_2 i255_47 na_253 rfl) (f253 b 2 S ) (zt_cast (zr_19_1 i255_48 (fun h2491 => zr_0 i255_49 kc_1 (zr_17 i255_50 (zt_rfl))) (fun h2492 => zr_0 i255_51 kc_0 (zt_rfl))) (zm_c zz_s (zl_c (zl_t zz_10) zz_s) zz_s))))))) (zm_c zz_s (zl_c (zl_t zz_bb) zz_s) zz_s))))) (zm_c zz_s (zl_c (zl_t zz_1b) zz_s) zz_s)) (zr_3_8 i255_52 (zr_1_4 i255_53 (zt_trans (zt_cast (zr_18b_0 i255_54 (fun h2493 => zr_1_5 i255_55 (zt_cast (zr_18b_1 i255_56 (fun h2495 => zr_0 i255_59 kc_1 (zr_17 i255_60 (zt_rfl))) (fun h2496 => zr_1_8 i255_57 (zt_cast (zr_18b_0 i255_58 (fun h2497 => zr_0 i255_59 kc_1 (zr_17 i255_60 (zt_rfl))) (fun h2498 => zr_0 i255_61 kc_0 (zt_rfl))) (zm_c zz_s (zl_c (zl_t zz_10) zz_s) zz_s)))) (zm_c zz_s (zl_c (zl_t zz_1b) zz_s) zz_s))) (fun h2494 => zr_0 i255_61 kc_0 (zt_rfl))) (zm_c zz_s (zl_c (zl_t zz_b0) zz_s) zz_s)) (zr_3_4 i255_62 (zr_5c_6 i255_63 kc_1 ka_2_1 (zr_17 i255_64 (zr_1_6 i255_6 (zr_0 i255_7 kc_3 (zr_19t_3 i255_8 (by decide) (zr_1_4 i255_65 (zr_26 i255_66 (zb_01 _)))))))))))))))))))))))))))))))))))))))))))))))))))))))))))))))))))))))))))))))))))))))))
def F256 (a b : Int32) (S : zS) : Int32 := (if (((F254 a 0 S) - (F254 b 0 S)) = 0) then ((if ((F254 a 0 S) = 0) then (0 : Int32) else (if (((F254 a 1 S) - (F254 b 1 S)) = 0) then ((if ((F254 a 1 S) = 0) then (0 : Int32) else (if (((F254 a 2 S) - (F254 b 2 S)) = 0) then (0 : Int32) else (if (((F254 a 2 S) - (F254 b 2 S)) ≤ 0) then ((-1) : Int32) else 1))) : Int32) else (if (((F254 a 1 S) - (F254 b 1 S)) ≤ 0) then ((-1) : Int32) else 1))) : Int32) else (if (((F254 a 0 S) - (F254 b 0 S)) ≤ 0) then ((-1) : Int32) else 1))
set_option maxRecDepth 100000 in
theorem f256 {L : Nat} (a b : Int32) (S : zS) (g0 : zx 200 ((5 * a) + 0)) (g1 : zx 200 ((5 * b) + 0)) (g2 : (((F254 a 0 S) - (F254 b 0 S)) = 0) → (¬ ((F254 a 0 S) = 0)) → zx 200 ((5 * a) + 1)) (g3 : (((F254 a 0 S) - (F254 b 0 S)) = 0) → (¬ ((F254 a 0 S) = 0)) → zx 200 ((5 * b) + 1)) (g4 : (((F254 a 0 S) - (F254 b 0 S)) = 0) → (¬ ((F254 a 0 S) = 0)) → (((F254 a 1 S) - (F254 b 1 S)) = 0) → (¬ ((F254 a 1 S) = 0)) → zx 200 ((5 * a) + 2)) (g5 : (((F254 a 0 S) - (F254 b 0 S)) = 0) → (¬ ((F254 a 0 S) = 0)) → (((F254 a 1 S) - (F254 b 1 S)) = 0) → (¬ ((F254 a 1 S) = 0)) → zx 200 ((5 * b) + 2)) : zf L 256 [.inr (.inr 13), .inl a, .inl b] S (.inl (some (.inl (F256 a b S))), S, 0) := zf_of (en_256 _ _ _) (zr_0 i256_0 kc_0 (zr_3_3 i256_1 (zr_1_3 i256_2 (zr_0 i256_3 kc_3 (zr_19f_3 i256_4 (by decide) (zr_2_0 i256_5 (zr_1_1 i256_6 (zr_1_3 i256_7 (zr_cv (zs_21_2 i256_8 na_254 ob_13 rfl) (f254 a 0 S (g0)) (zr_2_0 i256_9 (zr_1_2 i256_10 (zr_1_3 i256_11 (zr_cv (zs_21_2 i256_12 na_254 ob_13 rfl) (f254 b 0 S (g1)) (zr_13_1 i256_13 (zr_3_4 i256_14 (zr_1_4 i256_15 (zt_cast (zr_18_0 i256_16 (fun h2499 => zr_2_0 i256_23 (zr_1_1 i256_24 (zr_1_3 i256_25 (zr_cv (zs_21_2 i256_26 na_254 ob_13 rfl) (f254 a 0 S (g0)) (zt_cast (zr_18_1 i256_27 (fun h2501 => zr_0 i256_28 kc_0 (zr_25 i256_29)) (fun h2502 => zr_5c_3 i256_30 kc_1 ka_0_1 (zr_17 i256_31 (zr_1_3 i256_2 (zr_0 i256_3 kc_3 (zr_19f_3 i256_4 (by decide) (zr_2_0 i256_5 (zr_1_1 i256_6 (zr_1_3 i256_7 (zr_cv (zs_21_2 i256_8 na_254 ob_13 rfl) (f254 a 1 S (g2 h2499 h2502)) (zr_2_0 i256_9 (zr_1_2 i256_10 (zr_1_3 i256_11 (zr_cv (zs_21_2 i256_12 na_254 ob_13 rfl) (f254 b 1 S (g3 h2499 h2502)) (zr_13_1 i256_13 (zr_3_4 i256_14 (zr_1_4 i256_15 (zt_cast (zr_18_0 i256_16 (fun h2503 => zr_2_0 i256_23 (zr_1_1 i256_24 (zr_1_3 i256_25 (zr_cv (zs_21_2 i256_26 na_254 ob_13 rfl) (f254 a 1 S (g2 h2499 h2502)) (zt_cast (zr_18_1 i256_27 (fun h2505 => zr_0 i256_28 kc_0 (zr_25 i256_29)) (fun h2506 => zr_5c_3 i256_30 kc_1 ka_1_1 (zr_17 i256_31 (zr_1_3 i256_2 (zr_0 i256_3 kc_3 (zr_19f_3 i256_4 (by decide) (zr_2_0 i256_5 (zr_1_1 i256_6 (zr_1_3 i256_7 (zr_cv (zs_21_2 i256_8 na_254 ob_13 rfl) (f254 a 2 S (g4 h2499 h2502 h2503 h2506)) (zr_2_0 i256_9 (zr_1_2 i256_10 (zr_1_3 i256_11 (zr_cv (zs_21_2 i256_12 na_254 ob_13 rfl) (f254 b 2 S (g5 h2499 h2502 h2503 h2506)) (zr_13_1 i256_13 (zr_3_4 i256_14 (zr_1_4 i256_15 (zt_cast (zr_18_0 i256_16 (fun h2507 => zr_2_0 i256_23 (zr_1_1 i256_24 (zr_1_3 i256_25 (zr_cv (zs_21_2 i256_26 na_254 ob_13 rfl) (f254 a 2 S (g4 h2499 h2502 h2503 h2506)) (zt_cast (zr_18_1 i256_27 (fun h2509 => zr_0 i256_28 kc_0 (zr_25 i256_29)) (fun h2510 => zr_5c_3 i256_30 kc_1 ka_2_1 (zr_17 i256_31 (zr_1_3 i256_2 (zr_0 i256_3 kc_3 (zr_19t_3 i256_4 (by decide) (zr_0 i256_32 kc_0 (zr_25 i256_33)))))))) (zm_r zz_s zz_s)))))) (fun h2508 => zr_1_4 i256_17 (zt_trans (zt_cast (zr_18_5 i256_18 (fun h2511 => zr_0 i256_21 kc_m1 (zt_rfl)) (fun h2512 => zr_0 i256_19 kc_1 (zr_17 i256_20 (zt_rfl)))) (zm_c zz_s (zl_c (zl_t zz_e) zz_s) zz_s)) (zr_25 i256_22)))) (zm_r zz_e zz_s))))))))))))))))))) (zm_r zz_e zz_s)))))) (fun h2504 => zr_1_4 i256_17 (zt_trans (zt_cast (zr_18_5 i256_18 (fun h2513 => zr_0 i256_21 kc_m1 (zt_rfl)) (fun h2514 => zr_0 i256_19 kc_1 (zr_17 i256_20 (zt_rfl)))) (zm_c zz_s (zl_c (zl_t zz_e) zz_s) zz_s)) (zr_25 i256_22)))) (zm_r zz_e zz_s))))))))))))))))))) (zm_r zz_e zz_s)))))) (fun h2500 => zr_1_4 i256_17 (zt_trans (zt_cast (zr_18_5 i256_18 (fun h2515 => zr_0 i256_21 kc_m1 (zt_rfl)) (fun h2516 => zr_0 i256_19 kc_1 (zr_17 i256_20 (zt_rfl)))) (zm_c zz_s (zl_c (zl_t zz_e) zz_s) zz_s)) (zr_25 i256_22)))) (zm_r zz_e zz_s))))))))))))))))))
