/-! the methods with loops, and what calls them (wip/whole/gen/gen18.py) -/
theorem i222_0 : zi 222 0 1 0 0 0 := by decide +kernel
theorem i222_1 : zi 222 1 2 3 1 0 := by decide +kernel
theorem i222_2 : zi 222 2 3 0 0 1 := by decide +kernel
theorem i222_3 : zi 222 3 4 3 2 0 := by decide +kernel
theorem i222_4 : zi 222 4 5 1 2 0 := by decide +kernel
theorem i222_5 : zi 222 5 6 0 0 7 := by decide +kernel
theorem i222_6 : zi 222 6 7 19 61 3 := by decide +kernel
theorem i222_7 : zi 222 7 8 2 0 0 := by decide +kernel
theorem i222_8 : zi 222 8 9 1 2 0 := by decide +kernel
theorem i222_9 : zi 222 9 10 8 0 0 := by decide +kernel
theorem i222_10 : zi 222 10 11 0 0 (-1) := by decide +kernel
theorem i222_11 : zi 222 11 12 19 14 1 := by decide +kernel
theorem i222_12 : zi 222 12 13 0 0 0 := by decide +kernel
theorem i222_13 : zi 222 13 14 17 17 0 := by decide +kernel
theorem i222_14 : zi 222 14 15 2 0 0 := by decide +kernel
theorem i222_15 : zi 222 15 16 1 2 0 := by decide +kernel
theorem i222_16 : zi 222 16 17 8 0 0 := by decide +kernel
theorem i222_17 : zi 222 17 18 3 3 0 := by decide +kernel
theorem i222_18 : zi 222 18 19 0 0 1 := by decide +kernel
theorem i222_19 : zi 222 19 20 3 4 0 := by decide +kernel
theorem i222_61 : zi 222 61 62 1 1 0 := by decide +kernel
theorem i222_62 : zi 222 62 63 0 0 257 := by decide +kernel
theorem i222_63 : zi 222 63 64 13 4 0 := by decide +kernel
theorem i222_64 : zi 222 64 65 25 0 0 := by decide +kernel
theorem i222_20 : zi 222 20 21 1 4 0 := by decide +kernel
theorem i222_21 : zi 222 21 22 0 0 7 := by decide +kernel
theorem i222_22 : zi 222 22 23 19 55 3 := by decide +kernel
theorem i222_23 : zi 222 23 24 1 4 0 := by decide +kernel
theorem i222_24 : zi 222 24 25 1 2 0 := by decide +kernel
theorem i222_25 : zi 222 25 26 19 53 0 := by decide +kernel
theorem i222_26 : zi 222 26 27 2 0 0 := by decide +kernel
theorem i222_27 : zi 222 27 28 1 2 0 := by decide +kernel
theorem i222_28 : zi 222 28 29 8 0 0 := by decide +kernel
theorem i222_29 : zi 222 29 30 0 0 (-1) := by decide +kernel
theorem i222_30 : zi 222 30 31 19 53 0 := by decide +kernel
theorem i222_31 : zi 222 31 32 2 0 0 := by decide +kernel
theorem i222_32 : zi 222 32 33 1 4 0 := by decide +kernel
theorem i222_33 : zi 222 33 34 8 0 0 := by decide +kernel
theorem i222_34 : zi 222 34 35 0 0 (-1) := by decide +kernel
theorem i222_35 : zi 222 35 36 19 53 0 := by decide +kernel
theorem i222_36 : zi 222 36 37 1 3 0 := by decide +kernel
theorem i222_37 : zi 222 37 38 1 4 0 := by decide +kernel
theorem i222_38 : zi 222 38 39 13 2 0 := by decide +kernel
theorem i222_39 : zi 222 39 40 0 0 257 := by decide +kernel
theorem i222_40 : zi 222 40 41 13 4 0 := by decide +kernel
theorem i222_41 : zi 222 41 42 1 4 0 := by decide +kernel
theorem i222_42 : zi 222 42 43 1 2 0 := by decide +kernel
theorem i222_43 : zi 222 43 44 13 1 0 := by decide +kernel
theorem i222_44 : zi 222 44 45 0 0 257 := by decide +kernel
theorem i222_45 : zi 222 45 46 13 0 0 := by decide +kernel
theorem i222_46 : zi 222 46 47 0 0 257 := by decide +kernel
theorem i222_47 : zi 222 47 48 13 4 0 := by decide +kernel
theorem i222_48 : zi 222 48 49 22 221 0 := by decide +kernel
theorem na_221 : z_na 221 = 1 := by decide +kernel
theorem i222_49 : zi 222 49 50 13 2 0 := by decide +kernel
theorem i222_50 : zi 222 50 51 0 0 257 := by decide +kernel
theorem i222_51 : zi 222 51 52 13 4 0 := by decide +kernel
theorem i222_52 : zi 222 52 53 3 3 0 := by decide +kernel
theorem i222_53 : zi 222 53 54 5 4 1 := by decide +kernel
theorem i222_54 : zi 222 54 55 17 20 0 := by decide +kernel
theorem i222_55 : zi 222 55 56 1 1 0 := by decide +kernel
theorem i222_56 : zi 222 56 57 1 3 0 := by decide +kernel
theorem i222_57 : zi 222 57 58 13 0 0 := by decide +kernel
theorem i222_58 : zi 222 58 59 3 1 0 := by decide +kernel
theorem i222_59 : zi 222 59 60 5 2 1 := by decide +kernel
theorem i222_60 : zi 222 60 61 17 4 0 := by decide +kernel
theorem ml_222 : z_ml 222 = 5 := by decide +kernel
theorem en_222 : ∀ (v0 : zV), z_ent 222 [v0] = [some v0, none, none, none, none] := fun v0 => by unfold z_ent; rw [ml_222]; rfl
set_option maxRecDepth 100000 in
theorem s222_82_20 {L : Nat} (x1 x2 x3 x4 : Int32) (S : zS) (g0 : (¬ (7 ≤ x4)) → (¬ (x4 = x2)) → zx 7 x2) (g1 : (¬ (7 ≤ x4)) → (¬ (x4 = x2)) → (¬ ((S 82 x2.toNatClampNeg) = (-1))) → zx 7 x4) (g2 : (¬ (7 ≤ x4)) → (¬ (x4 = x2)) → (¬ ((S 82 x2.toNatClampNeg) = (-1))) → (¬ ((S 82 x4.toNatClampNeg) = (-1))) → zinv (zrem ((x4 - x2) + 257) 257)) : zt L 222 20 [some (.inr (.inr 82)), some (.inl x1), some (.inl x2), some (.inl x3), some (.inl x4)] [] S (if (7 ≤ x4) then (.inl (55, [some (.inr (.inr 82)), some (.inl x1), some (.inl x2), some (.inl x3), some (.inl x4)], [], S)) else (.inl (20, [some (.inr (.inr 82)), some (.inl x1), some (.inl x2), some (.inl (if (x4 = x2) then (x3 : Int32) else (if ((S 82 x2.toNatClampNeg) = (-1)) then (x3 : Int32) else (if ((S 82 x4.toNatClampNeg) = (-1)) then (x3 : Int32) else (zrem ((zrem (x3 * x4) 257) * (F221 (zrem ((x4 - x2) + 257) 257))) 257))))), some (.inl (x4 + 1))], [], S))) := zr_1_4 i222_20 (zr_0 i222_21 kc_7 (zr_19_3 i222_22 (fun h2037 => zt_rfl) (fun h2038 => zr_1_4 i222_23 (zr_1_2 i222_24 (zt_trans (zt_cast (zr_19_0 i222_25 (fun h2039 => zt_rfl) (fun h2040 => zr_2_0 i222_26 (zr_1_2 i222_27 (zr_8 i222_28 ar_82 (g0 h2038 h2040) rfl rfl (zr_0 i222_29 kc_m1 (zt_cast (zr_19_0 i222_30 (fun h2041 => zt_rfl) (fun h2042 => zr_2_0 i222_31 (zr_1_4 i222_32 (zr_8 i222_33 ar_82 (g1 h2038 h2040 h2042) rfl rfl (zr_0 i222_34 kc_m1 (zt_cast (zr_19_0 i222_35 (fun h2043 => zt_rfl) (fun h2044 => zr_1_3 i222_36 (zr_1_4 i222_37 (zr_13_2 i222_38 (zr_0 i222_39 kc_257 (zr_13_4 i222_40 nz_257 (zr_1_4 i222_41 (zr_1_2 i222_42 (zr_13_1 i222_43 (zr_0 i222_44 kc_257 (zr_13_0 i222_45 (zr_0 i222_46 kc_257 (zr_13_4 i222_47 nz_257 (zr_cv (zs_22_1 i222_48 na_221 rfl) (f221 (zrem ((x4 - x2) + 257) 257) S (g2 h2038 h2040 h2042 h2044)) (zr_13_2 i222_49 (zr_0 i222_50 kc_257 (zr_13_4 i222_51 nz_257 (zr_3_3 i222_52 (zt_rfl))))))))))))))))))) (zm_c (zl_c zz_s (zl_c zz_s (zl_c zz_s (zl_c (zl_v zz_e) zz_s)))) zz_s zz_s))))))) (zm_c (zl_c zz_s (zl_c zz_s (zl_c zz_s (zl_c (zl_v zz_e) zz_s)))) zz_s zz_s))))))) (zm_c (zl_c zz_s (zl_c zz_s (zl_c zz_s (zl_c (zl_v zz_e) zz_s)))) zz_s zz_s)) (zr_5_4 i222_53 kc_1 (zr_17 i222_54 (zt_rfl))))))))
def k222_82_20 (x1 x2 : Int32) (S : zS) (j : Nat) (a : Int32) : Int32 := (if ((Int32.ofNat j) = x2) then (a : Int32) else (if ((S 82 x2.toNatClampNeg) = (-1)) then (a : Int32) else (if ((S 82 j) = (-1)) then (a : Int32) else (zrem ((zrem (a * (Int32.ofNat j)) 257) * (F221 (zrem (((Int32.ofNat j) - x2) + 257) 257))) 257))))
set_option maxRecDepth 100000 in
theorem l222_82_20 {L : Nat} (x1 x2 : Int32) (S : zS) (i0 n : Nat) (a : Int32) (hn : i0 + n < 2147483648) (hc0 : ∀ j, j < n → ¬ (7 ≤ (Int32.ofNat (i0 + j)))) (g0 : ∀ j, j < n → (¬ (7 ≤ (Int32.ofNat (i0 + j)))) → (¬ ((Int32.ofNat (i0 + j)) = x2)) → zx 7 x2) (g1 : ∀ j, j < n → (¬ (7 ≤ (Int32.ofNat (i0 + j)))) → (¬ ((Int32.ofNat (i0 + j)) = x2)) → (¬ ((S 82 x2.toNatClampNeg) = (-1))) → zx 7 (Int32.ofNat (i0 + j))) (g2 : ∀ j, j < n → (¬ (7 ≤ (Int32.ofNat (i0 + j)))) → (¬ ((Int32.ofNat (i0 + j)) = x2)) → (¬ ((S 82 x2.toNatClampNeg) = (-1))) → (¬ ((S 82 (i0 + j)) = (-1))) → zinv (zrem (((Int32.ofNat (i0 + j)) - x2) + 257) 257)) : zt L 222 20 [some (.inr (.inr 82)), some (.inl x1), some (.inl x2), some (.inl a), some (.inl (Int32.ofNat i0))] [] S (.inl (20, [some (.inr (.inr 82)), some (.inl x1), some (.inl x2), some (.inl (zfold (k222_82_20 x1 x2 S) i0 n a)), some (.inl (Int32.ofNat (i0 + n)))], [], S)) := by
  induction n with
  | zero => exact zt_rfl
  | succ n ih =>
    have e1 := zk_ix (i0 + n) (by omega)
    have e2 := zk_add (i0 + n)
    refine zt_trans (ih (by omega) (fun j hj => hc0 j (by omega)) (fun j hj => g0 j (by omega)) (fun j hj => g1 j (by omega)) (fun j hj => g2 j (by omega))) ?_
    refine zt_cast (s222_82_20 x1 x2 (zfold (k222_82_20 x1 x2 S) i0 n a) (Int32.ofNat (i0 + n)) S (by have hg := g0 n (by omega); first | exact hg | (simp only [e1]; exact hg)) (by have hg := g1 n (by omega); first | exact hg | (simp only [e1]; exact hg)) (by have hg := g2 n (by omega); first | exact hg | (simp only [e1]; exact hg))) ?_
    rw [if_neg (show ¬ (7 ≤ (Int32.ofNat (i0 + n))) from (by have hg := hc0 n (by omega); first | exact hg | (simp only [e1]; exact hg)))]
    simp only [zfold, k222_82_20, e1, e2, ← Nat.add_assoc]
def K222_82_20 (x1 x2 x3 : Int32) (i0 : Nat) (S : zS) : Int32 := zfold (k222_82_20 x1 x2 S) i0 (7 - i0) x3
def K222_82_20_c3 (x1 x2 x3 : Int32) (i0 : Nat) (S : zS) : Int32 := (K222_82_20 x1 x2 x3 i0 S)
set_option maxRecDepth 100000 in
theorem L222_82_20 {L : Nat} (x1 x2 x3 : Int32) (i0 : Nat) (S : zS) (hi : i0 ≤ 10000) (hq0 : zx 7 x2) (hz2 : z16 x2) (hi1 : 1 ≤ i0) : zt L 222 20 [some (.inr (.inr 82)), some (.inl x1), some (.inl x2), some (.inl x3), some (.inl (Int32.ofNat i0))] [] S (.inl (55, [some (.inr (.inr 82)), some (.inl x1), some (.inl x2), some (.inl (K222_82_20_c3 x1 x2 x3 i0 S)), some (.inl (Int32.ofNat (i0 + (7 - i0))))], [], S)) := by
  have hend : 7 ≤ Int32.ofNat (i0 + (7 - i0)) := by exact zc_le_end (show zn 7 7 from by unfold zn; decide) (by omega)
  refine zt_trans (l222_82_20 x1 x2  S i0 (7 - i0) x3 (by omega) (fun j hj => by exact zc_le (show zn 7 7 from by unfold zn; decide) hj (by omega)) (fun j hj _ _ => by exact hq0) (fun j hj _ _ _ => by exact zx_of (by omega) (by omega)) (fun j hj _ h7 _ _ => by obtain ⟨i9, a9, b9, rfl⟩ := hz2; exact zinv_k i9 (by omega) (i0 + j) (by omega) a9 (by omega) (fun e9 => by exact h7 (by rw [e9])))) ?_
  exact zt_cast (s222_82_20 x1 x2 (zfold (k222_82_20 x1 x2 S) i0 (7 - i0) x3) (Int32.ofNat (i0 + (7 - i0))) S (fun h9 => absurd hend h9) (fun h9 => absurd hend h9) (fun h9 => absurd hend h9)) (if_pos hend)
set_option maxRecDepth 100000 in
theorem s222_82_4 {L : Nat} (x1 x2 : Int32) (u3 u4 : Option zV) (S : zS) (g0 : (¬ (7 ≤ x2)) → zx 7 x2) (g1 : (¬ (7 ≤ x2)) → z16 x2) : zt L 222 4 [some (.inr (.inr 82)), some (.inl x1), some (.inl x2), u3, u4] [] S (if (7 ≤ x2) then (.inl (61, [some (.inr (.inr 82)), some (.inl x1), some (.inl x2), u3, u4], [], S)) else (.inl (4, [some (.inr (.inr 82)), some (.inl (x1 + (K222_82_20_c3 x1 x2 (if ((S 82 x2.toNatClampNeg) = (-1)) then (0 : Int32) else (S 82 x2.toNatClampNeg)) 1 S))), some (.inl (x2 + 1)), some (.inl (K222_82_20_c3 x1 x2 (if ((S 82 x2.toNatClampNeg) = (-1)) then (0 : Int32) else (S 82 x2.toNatClampNeg)) 1 S)), some (.inl (Int32.ofNat (1 + (7 - 1))))], [], S))) := zr_1_2 i222_4 (zr_0 i222_5 kc_7 (zr_19_3 i222_6 (fun h2045 => zt_rfl) (fun h2046 => zr_2_0 i222_7 (zr_1_2 i222_8 (zr_8 i222_9 ar_82 (g0 h2046) rfl rfl (zr_0 i222_10 kc_m1 (zt_trans (zt_cast (zr_19_1 i222_11 (fun h2047 => zr_0 i222_12 kc_0 (zr_17 i222_13 (zt_rfl))) (fun h2048 => zr_2_0 i222_14 (zr_1_2 i222_15 (zr_8 i222_16 ar_82 (g0 h2046) rfl rfl (zt_rfl))))) (zm_c zz_s (zl_c (zl_t zz_e) zz_s) zz_s)) (zr_3_3 i222_17 (zr_0 i222_18 kc_1 (zr_3_4 i222_19 (zt_trans (L222_82_20 x1 x2 (if ((S 82 x2.toNatClampNeg) = (-1)) then (0 : Int32) else (S 82 x2.toNatClampNeg)) 1 S (by decide) (g0 h2046) (g1 h2046) (by decide)) (zr_1_1 i222_55 (zr_1_3 i222_56 (zr_13_0 i222_57 (zr_3_1 i222_58 (zr_5_2 i222_59 kc_1 (zr_17 i222_60 (zt_rfl))))))))))))))))))
def k222_82_4 (S : zS) (j : Nat) (a : Int32 × Option zV × Option zV) : Int32 × Option zV × Option zV := ((a.1 + (K222_82_20_c3 a.1 (Int32.ofNat j) (if ((S 82 j) = (-1)) then (0 : Int32) else (S 82 j)) 1 S)), (some (.inl (K222_82_20_c3 a.1 (Int32.ofNat j) (if ((S 82 j) = (-1)) then (0 : Int32) else (S 82 j)) 1 S))), (some (.inl (Int32.ofNat (1 + (7 - 1))))))
set_option maxRecDepth 100000 in
theorem l222_82_4 {L : Nat} (S : zS) (i0 n : Nat) (a : Int32 × Option zV × Option zV) (hn : i0 + n < 2147483648) (hc0 : ∀ j, j < n → ¬ (7 ≤ (Int32.ofNat (i0 + j)))) (g0 : ∀ j, j < n → (¬ (7 ≤ (Int32.ofNat (i0 + j)))) → zx 7 (Int32.ofNat (i0 + j))) (g1 : ∀ j, j < n → (¬ (7 ≤ (Int32.ofNat (i0 + j)))) → z16 (Int32.ofNat (i0 + j))) : zt L 222 4 [some (.inr (.inr 82)), some (.inl a.1), some (.inl (Int32.ofNat i0)), a.2.1, a.2.2] [] S (.inl (4, [some (.inr (.inr 82)), some (.inl (zfold (k222_82_4 S) i0 n a).1), some (.inl (Int32.ofNat (i0 + n))), (zfold (k222_82_4 S) i0 n a).2.1, (zfold (k222_82_4 S) i0 n a).2.2], [], S)) := by
  induction n with
  | zero => exact zt_rfl
  | succ n ih =>
    have e1 := zk_ix (i0 + n) (by omega)
    have e2 := zk_add (i0 + n)
    refine zt_trans (ih (by omega) (fun j hj => hc0 j (by omega)) (fun j hj => g0 j (by omega)) (fun j hj => g1 j (by omega))) ?_
    refine zt_cast (s222_82_4 (zfold (k222_82_4 S) i0 n a).1 (Int32.ofNat (i0 + n)) (zfold (k222_82_4 S) i0 n a).2.1 (zfold (k222_82_4 S) i0 n a).2.2 S (by have hg := g0 n (by omega); first | exact hg | (simp only [e1]; exact hg)) (by have hg := g1 n (by omega); first | exact hg | (simp only [e1]; exact hg))) ?_
    rw [if_neg (show ¬ (7 ≤ (Int32.ofNat (i0 + n))) from (by have hg := hc0 n (by omega); first | exact hg | (simp only [e1]; exact hg)))]
    simp only [zfold, k222_82_4, e1, e2, ← Nat.add_assoc]
def K222_82_4 (x1 : Int32) (u3 u4 : Option zV) (i0 : Nat) (S : zS) : Int32 × Option zV × Option zV := zfold (k222_82_4 S) i0 (7 - i0) (x1, u3, u4)
def K222_82_4_c1 (x1 : Int32) (u3 u4 : Option zV) (i0 : Nat) (S : zS) : Int32 := (K222_82_4 x1 u3 u4 i0 S).1
def K222_82_4_c3 (x1 : Int32) (u3 u4 : Option zV) (i0 : Nat) (S : zS) : Option zV := (K222_82_4 x1 u3 u4 i0 S).2.1
def K222_82_4_c4 (x1 : Int32) (u3 u4 : Option zV) (i0 : Nat) (S : zS) : Option zV := (K222_82_4 x1 u3 u4 i0 S).2.2
set_option maxRecDepth 100000 in
theorem L222_82_4 {L : Nat} (x1 : Int32) (u3 u4 : Option zV) (i0 : Nat) (S : zS) (hi : i0 ≤ 10000) (hi0 : 1 ≤ i0) : zt L 222 4 [some (.inr (.inr 82)), some (.inl x1), some (.inl (Int32.ofNat i0)), u3, u4] [] S (.inl (61, [some (.inr (.inr 82)), some (.inl (K222_82_4_c1 x1 u3 u4 i0 S)), some (.inl (Int32.ofNat (i0 + (7 - i0)))), (K222_82_4_c3 x1 u3 u4 i0 S), (K222_82_4_c4 x1 u3 u4 i0 S)], [], S)) := by
  have hend : 7 ≤ Int32.ofNat (i0 + (7 - i0)) := by exact zc_le_end (show zn 7 7 from by unfold zn; decide) (by omega)
  refine zt_trans (l222_82_4   S i0 (7 - i0) (x1, u3, u4) (by omega) (fun j hj => by exact zc_le (show zn 7 7 from by unfold zn; decide) hj (by omega)) (fun j hj _ => by exact zx_of (by omega) (by omega)) (fun j hj _ => by exact ⟨i0 + j, by omega, by omega, rfl⟩)) ?_
  exact zt_cast (s222_82_4 (zfold (k222_82_4 S) i0 (7 - i0) (x1, u3, u4)).1 (Int32.ofNat (i0 + (7 - i0))) (zfold (k222_82_4 S) i0 (7 - i0) (x1, u3, u4)).2.1 (zfold (k222_82_4 S) i0 (7 - i0) (x1, u3, u4)).2.2 S (fun h9 => absurd hend h9) (fun h9 => absurd hend h9)) (if_pos hend)
set_option maxRecDepth 100000 in
theorem f222_82 {L : Nat} (S : zS) : zf L 222 [.inr (.inr 82)] S (.inl (some (.inl (zrem (K222_82_4_c1 0 (none : Option zV) (none : Option zV) 1 S) 257))), S, 0) := zf_of (en_222 _) (zr_0 i222_0 kc_0 (zr_3_1 i222_1 (zr_0 i222_2 kc_1 (zr_3_2 i222_3 (zt_trans (L222_82_4 0 (none : Option zV) (none : Option zV) 1 S (by decide) (by decide)) (zr_1_1 i222_61 (zr_0 i222_62 kc_257 (zr_13_4 i222_63 nz_257 (zr_25 i222_64)))))))))
set_option maxRecDepth 100000 in
theorem s222_83_20 {L : Nat} (x1 x2 x3 x4 : Int32) (S : zS) (g0 : (¬ (7 ≤ x4)) → (¬ (x4 = x2)) → zx 7 x2) (g1 : (¬ (7 ≤ x4)) → (¬ (x4 = x2)) → (¬ ((S 83 x2.toNatClampNeg) = (-1))) → zx 7 x4) (g2 : (¬ (7 ≤ x4)) → (¬ (x4 = x2)) → (¬ ((S 83 x2.toNatClampNeg) = (-1))) → (¬ ((S 83 x4.toNatClampNeg) = (-1))) → zinv (zrem ((x4 - x2) + 257) 257)) : zt L 222 20 [some (.inr (.inr 83)), some (.inl x1), some (.inl x2), some (.inl x3), some (.inl x4)] [] S (if (7 ≤ x4) then (.inl (55, [some (.inr (.inr 83)), some (.inl x1), some (.inl x2), some (.inl x3), some (.inl x4)], [], S)) else (.inl (20, [some (.inr (.inr 83)), some (.inl x1), some (.inl x2), some (.inl (if (x4 = x2) then (x3 : Int32) else (if ((S 83 x2.toNatClampNeg) = (-1)) then (x3 : Int32) else (if ((S 83 x4.toNatClampNeg) = (-1)) then (x3 : Int32) else (zrem ((zrem (x3 * x4) 257) * (F221 (zrem ((x4 - x2) + 257) 257))) 257))))), some (.inl (x4 + 1))], [], S))) := zr_1_4 i222_20 (zr_0 i222_21 kc_7 (zr_19_3 i222_22 (fun h2077 => zt_rfl) (fun h2078 => zr_1_4 i222_23 (zr_1_2 i222_24 (zt_trans (zt_cast (zr_19_0 i222_25 (fun h2079 => zt_rfl) (fun h2080 => zr_2_0 i222_26 (zr_1_2 i222_27 (zr_8 i222_28 ar_83 (g0 h2078 h2080) rfl rfl (zr_0 i222_29 kc_m1 (zt_cast (zr_19_0 i222_30 (fun h2081 => zt_rfl) (fun h2082 => zr_2_0 i222_31 (zr_1_4 i222_32 (zr_8 i222_33 ar_83 (g1 h2078 h2080 h2082) rfl rfl (zr_0 i222_34 kc_m1 (zt_cast (zr_19_0 i222_35 (fun h2083 => zt_rfl) (fun h2084 => zr_1_3 i222_36 (zr_1_4 i222_37 (zr_13_2 i222_38 (zr_0 i222_39 kc_257 (zr_13_4 i222_40 nz_257 (zr_1_4 i222_41 (zr_1_2 i222_42 (zr_13_1 i222_43 (zr_0 i222_44 kc_257 (zr_13_0 i222_45 (zr_0 i222_46 kc_257 (zr_13_4 i222_47 nz_257 (zr_cv (zs_22_1 i222_48 na_221 rfl) (f221 (zrem ((x4 - x2) + 257) 257) S (g2 h2078 h2080 h2082 h2084)) (zr_13_2 i222_49 (zr_0 i222_50 kc_257 (zr_13_4 i222_51 nz_257 (zr_3_3 i222_52 (zt_rfl))))))))))))))))))) (zm_c (zl_c zz_s (zl_c zz_s (zl_c zz_s (zl_c (zl_v zz_e) zz_s)))) zz_s zz_s))))))) (zm_c (zl_c zz_s (zl_c zz_s (zl_c zz_s (zl_c (zl_v zz_e) zz_s)))) zz_s zz_s))))))) (zm_c (zl_c zz_s (zl_c zz_s (zl_c zz_s (zl_c (zl_v zz_e) zz_s)))) zz_s zz_s)) (zr_5_4 i222_53 kc_1 (zr_17 i222_54 (zt_rfl))))))))
def k222_83_20 (x1 x2 : Int32) (S : zS) (j : Nat) (a : Int32) : Int32 := (if ((Int32.ofNat j) = x2) then (a : Int32) else (if ((S 83 x2.toNatClampNeg) = (-1)) then (a : Int32) else (if ((S 83 j) = (-1)) then (a : Int32) else (zrem ((zrem (a * (Int32.ofNat j)) 257) * (F221 (zrem (((Int32.ofNat j) - x2) + 257) 257))) 257))))
set_option maxRecDepth 100000 in
theorem l222_83_20 {L : Nat} (x1 x2 : Int32) (S : zS) (i0 n : Nat) (a : Int32) (hn : i0 + n < 2147483648) (hc0 : ∀ j, j < n → ¬ (7 ≤ (Int32.ofNat (i0 + j)))) (g0 : ∀ j, j < n → (¬ (7 ≤ (Int32.ofNat (i0 + j)))) → (¬ ((Int32.ofNat (i0 + j)) = x2)) → zx 7 x2) (g1 : ∀ j, j < n → (¬ (7 ≤ (Int32.ofNat (i0 + j)))) → (¬ ((Int32.ofNat (i0 + j)) = x2)) → (¬ ((S 83 x2.toNatClampNeg) = (-1))) → zx 7 (Int32.ofNat (i0 + j))) (g2 : ∀ j, j < n → (¬ (7 ≤ (Int32.ofNat (i0 + j)))) → (¬ ((Int32.ofNat (i0 + j)) = x2)) → (¬ ((S 83 x2.toNatClampNeg) = (-1))) → (¬ ((S 83 (i0 + j)) = (-1))) → zinv (zrem (((Int32.ofNat (i0 + j)) - x2) + 257) 257)) : zt L 222 20 [some (.inr (.inr 83)), some (.inl x1), some (.inl x2), some (.inl a), some (.inl (Int32.ofNat i0))] [] S (.inl (20, [some (.inr (.inr 83)), some (.inl x1), some (.inl x2), some (.inl (zfold (k222_83_20 x1 x2 S) i0 n a)), some (.inl (Int32.ofNat (i0 + n)))], [], S)) := by
  induction n with
  | zero => exact zt_rfl
  | succ n ih =>
    have e1 := zk_ix (i0 + n) (by omega)
    have e2 := zk_add (i0 + n)
    refine zt_trans (ih (by omega) (fun j hj => hc0 j (by omega)) (fun j hj => g0 j (by omega)) (fun j hj => g1 j (by omega)) (fun j hj => g2 j (by omega))) ?_
    refine zt_cast (s222_83_20 x1 x2 (zfold (k222_83_20 x1 x2 S) i0 n a) (Int32.ofNat (i0 + n)) S (by have hg := g0 n (by omega); first | exact hg | (simp only [e1]; exact hg)) (by have hg := g1 n (by omega); first | exact hg | (simp only [e1]; exact hg)) (by have hg := g2 n (by omega); first | exact hg | (simp only [e1]; exact hg))) ?_
    rw [if_neg (show ¬ (7 ≤ (Int32.ofNat (i0 + n))) from (by have hg := hc0 n (by omega); first | exact hg | (simp only [e1]; exact hg)))]
    simp only [zfold, k222_83_20, e1, e2, ← Nat.add_assoc]
def K222_83_20 (x1 x2 x3 : Int32) (i0 : Nat) (S : zS) : Int32 := zfold (k222_83_20 x1 x2 S) i0 (7 - i0) x3
def K222_83_20_c3 (x1 x2 x3 : Int32) (i0 : Nat) (S : zS) : Int32 := (K222_83_20 x1 x2 x3 i0 S)
set_option maxRecDepth 100000 in
theorem L222_83_20 {L : Nat} (x1 x2 x3 : Int32) (i0 : Nat) (S : zS) (hi : i0 ≤ 10000) (hq0 : zx 7 x2) (hz2 : z16 x2) (hi1 : 1 ≤ i0) : zt L 222 20 [some (.inr (.inr 83)), some (.inl x1), some (.inl x2), some (.inl x3), some (.inl (Int32.ofNat i0))] [] S (.inl (55, [some (.inr (.inr 83)), some (.inl x1), some (.inl x2), some (.inl (K222_83_20_c3 x1 x2 x3 i0 S)), some (.inl (Int32.ofNat (i0 + (7 - i0))))], [], S)) := by
  have hend : 7 ≤ Int32.ofNat (i0 + (7 - i0)) := by exact zc_le_end (show zn 7 7 from by unfold zn; decide) (by omega)
  refine zt_trans (l222_83_20 x1 x2  S i0 (7 - i0) x3 (by omega) (fun j hj => by exact zc_le (show zn 7 7 from by unfold zn; decide) hj (by omega)) (fun j hj _ _ => by exact hq0) (fun j hj _ _ _ => by exact zx_of (by omega) (by omega)) (fun j hj _ h7 _ _ => by obtain ⟨i9, a9, b9, rfl⟩ := hz2; exact zinv_k i9 (by omega) (i0 + j) (by omega) a9 (by omega) (fun e9 => by exact h7 (by rw [e9])))) ?_
  exact zt_cast (s222_83_20 x1 x2 (zfold (k222_83_20 x1 x2 S) i0 (7 - i0) x3) (Int32.ofNat (i0 + (7 - i0))) S (fun h9 => absurd hend h9) (fun h9 => absurd hend h9) (fun h9 => absurd hend h9)) (if_pos hend)
set_option maxRecDepth 100000 in
theorem s222_83_4 {L : Nat} (x1 x2 : Int32) (u3 u4 : Option zV) (S : zS) (g0 : (¬ (7 ≤ x2)) → zx 7 x2) (g1 : (¬ (7 ≤ x2)) → z16 x2) : zt L 222 4 [some (.inr (.inr 83)), some (.inl x1), some (.inl x2), u3, u4] [] S (if (7 ≤ x2) then (.inl (61, [some (.inr (.inr 83)), some (.inl x1), some (.inl x2), u3, u4], [], S)) else (.inl (4, [some (.inr (.inr 83)), some (.inl (x1 + (K222_83_20_c3 x1 x2 (if ((S 83 x2.toNatClampNeg) = (-1)) then (0 : Int32) else (S 83 x2.toNatClampNeg)) 1 S))), some (.inl (x2 + 1)), some (.inl (K222_83_20_c3 x1 x2 (if ((S 83 x2.toNatClampNeg) = (-1)) then (0 : Int32) else (S 83 x2.toNatClampNeg)) 1 S)), some (.inl (Int32.ofNat (1 + (7 - 1))))], [], S))) := zr_1_2 i222_4 (zr_0 i222_5 kc_7 (zr_19_3 i222_6 (fun h2085 => zt_rfl) (fun h2086 => zr_2_0 i222_7 (zr_1_2 i222_8 (zr_8 i222_9 ar_83 (g0 h2086) rfl rfl (zr_0 i222_10 kc_m1 (zt_trans (zt_cast (zr_19_1 i222_11 (fun h2087 => zr_0 i222_12 kc_0 (zr_17 i222_13 (zt_rfl))) (fun h2088 => zr_2_0 i222_14 (zr_1_2 i222_15 (zr_8 i222_16 ar_83 (g0 h2086) rfl rfl (zt_rfl))))) (zm_c zz_s (zl_c (zl_t zz_e) zz_s) zz_s)) (zr_3_3 i222_17 (zr_0 i222_18 kc_1 (zr_3_4 i222_19 (zt_trans (L222_83_20 x1 x2 (if ((S 83 x2.toNatClampNeg) = (-1)) then (0 : Int32) else (S 83 x2.toNatClampNeg)) 1 S (by decide) (g0 h2086) (g1 h2086) (by decide)) (zr_1_1 i222_55 (zr_1_3 i222_56 (zr_13_0 i222_57 (zr_3_1 i222_58 (zr_5_2 i222_59 kc_1 (zr_17 i222_60 (zt_rfl))))))))))))))))))
def k222_83_4 (S : zS) (j : Nat) (a : Int32 × Option zV × Option zV) : Int32 × Option zV × Option zV := ((a.1 + (K222_83_20_c3 a.1 (Int32.ofNat j) (if ((S 83 j) = (-1)) then (0 : Int32) else (S 83 j)) 1 S)), (some (.inl (K222_83_20_c3 a.1 (Int32.ofNat j) (if ((S 83 j) = (-1)) then (0 : Int32) else (S 83 j)) 1 S))), (some (.inl (Int32.ofNat (1 + (7 - 1))))))
set_option maxRecDepth 100000 in
theorem l222_83_4 {L : Nat} (S : zS) (i0 n : Nat) (a : Int32 × Option zV × Option zV) (hn : i0 + n < 2147483648) (hc0 : ∀ j, j < n → ¬ (7 ≤ (Int32.ofNat (i0 + j)))) (g0 : ∀ j, j < n → (¬ (7 ≤ (Int32.ofNat (i0 + j)))) → zx 7 (Int32.ofNat (i0 + j))) (g1 : ∀ j, j < n → (¬ (7 ≤ (Int32.ofNat (i0 + j)))) → z16 (Int32.ofNat (i0 + j))) : zt L 222 4 [some (.inr (.inr 83)), some (.inl a.1), some (.inl (Int32.ofNat i0)), a.2.1, a.2.2] [] S (.inl (4, [some (.inr (.inr 83)), some (.inl (zfold (k222_83_4 S) i0 n a).1), some (.inl (Int32.ofNat (i0 + n))), (zfold (k222_83_4 S) i0 n a).2.1, (zfold (k222_83_4 S) i0 n a).2.2], [], S)) := by
  induction n with
  | zero => exact zt_rfl
  | succ n ih =>
    have e1 := zk_ix (i0 + n) (by omega)
    have e2 := zk_add (i0 + n)
    refine zt_trans (ih (by omega) (fun j hj => hc0 j (by omega)) (fun j hj => g0 j (by omega)) (fun j hj => g1 j (by omega))) ?_
    refine zt_cast (s222_83_4 (zfold (k222_83_4 S) i0 n a).1 (Int32.ofNat (i0 + n)) (zfold (k222_83_4 S) i0 n a).2.1 (zfold (k222_83_4 S) i0 n a).2.2 S (by have hg := g0 n (by omega); first | exact hg | (simp only [e1]; exact hg)) (by have hg := g1 n (by omega); first | exact hg | (simp only [e1]; exact hg))) ?_
    rw [if_neg (show ¬ (7 ≤ (Int32.ofNat (i0 + n))) from (by have hg := hc0 n (by omega); first | exact hg | (simp only [e1]; exact hg)))]
    simp only [zfold, k222_83_4, e1, e2, ← Nat.add_assoc]
def K222_83_4 (x1 : Int32) (u3 u4 : Option zV) (i0 : Nat) (S : zS) : Int32 × Option zV × Option zV := zfold (k222_83_4 S) i0 (7 - i0) (x1, u3, u4)
def K222_83_4_c1 (x1 : Int32) (u3 u4 : Option zV) (i0 : Nat) (S : zS) : Int32 := (K222_83_4 x1 u3 u4 i0 S).1
def K222_83_4_c3 (x1 : Int32) (u3 u4 : Option zV) (i0 : Nat) (S : zS) : Option zV := (K222_83_4 x1 u3 u4 i0 S).2.1
def K222_83_4_c4 (x1 : Int32) (u3 u4 : Option zV) (i0 : Nat) (S : zS) : Option zV := (K222_83_4 x1 u3 u4 i0 S).2.2
set_option maxRecDepth 100000 in
theorem L222_83_4 {L : Nat} (x1 : Int32) (u3 u4 : Option zV) (i0 : Nat) (S : zS) (hi : i0 ≤ 10000) (hi0 : 1 ≤ i0) : zt L 222 4 [some (.inr (.inr 83)), some (.inl x1), some (.inl (Int32.ofNat i0)), u3, u4] [] S (.inl (61, [some (.inr (.inr 83)), some (.inl (K222_83_4_c1 x1 u3 u4 i0 S)), some (.inl (Int32.ofNat (i0 + (7 - i0)))), (K222_83_4_c3 x1 u3 u4 i0 S), (K222_83_4_c4 x1 u3 u4 i0 S)], [], S)) := by
  have hend : 7 ≤ Int32.ofNat (i0 + (7 - i0)) := by exact zc_le_end (show zn 7 7 from by unfold zn; decide) (by omega)
  refine zt_trans (l222_83_4   S i0 (7 - i0) (x1, u3, u4) (by omega) (fun j hj => by exact zc_le (show zn 7 7 from by unfold zn; decide) hj (by omega)) (fun j hj _ => by exact zx_of (by omega) (by omega)) (fun j hj _ => by exact ⟨i0 + j, by omega, by omega, rfl⟩)) ?_
  exact zt_cast (s222_83_4 (zfold (k222_83_4 S) i0 (7 - i0) (x1, u3, u4)).1 (Int32.ofNat (i0 + (7 - i0))) (zfold (k222_83_4 S) i0 (7 - i0) (x1, u3, u4)).2.1 (zfold (k222_83_4 S) i0 (7 - i0) (x1, u3, u4)).2.2 S (fun h9 => absurd hend h9) (fun h9 => absurd hend h9)) (if_pos hend)
set_option maxRecDepth 100000 in
theorem f222_83 {L : Nat} (S : zS) : zf L 222 [.inr (.inr 83)] S (.inl (some (.inl (zrem (K222_83_4_c1 0 (none : Option zV) (none : Option zV) 1 S) 257))), S, 0) := zf_of (en_222 _) (zr_0 i222_0 kc_0 (zr_3_1 i222_1 (zr_0 i222_2 kc_1 (zr_3_2 i222_3 (zt_trans (L222_83_4 0 (none : Option zV) (none : Option zV) 1 S (by decide) (by decide)) (zr_1_1 i222_61 (zr_0 i222_62 kc_257 (zr_13_4 i222_63 nz_257 (zr_25 i222_64)))))))))
