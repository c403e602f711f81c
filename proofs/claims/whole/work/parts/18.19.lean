/-! the methods with loops, and what calls them (wip/whole/gen/gen18.py) -/
theorem i282_0 : zi 282 0 1 0 0 0 := by decide +kernel
theorem i282_1 : zi 282 1 2 3 5 0 := by decide +kernel
theorem i282_2 : zi 282 2 3 0 0 1 := by decide +kernel
theorem i282_3 : zi 282 3 4 3 6 0 := by decide +kernel
theorem i282_4 : zi 282 4 5 0 0 0 := by decide +kernel
theorem i282_5 : zi 282 5 6 3 7 0 := by decide +kernel
theorem i282_6 : zi 282 6 7 1 7 0 := by decide +kernel
theorem i282_7 : zi 282 7 8 0 0 3 := by decide +kernel
theorem i282_8 : zi 282 8 9 19 38 3 := by decide +kernel
theorem i282_9 : zi 282 9 10 1 5 0 := by decide +kernel
theorem i282_10 : zi 282 10 11 18 16 1 := by decide +kernel
theorem i282_11 : zi 282 11 12 2 0 0 := by decide +kernel
theorem i282_12 : zi 282 12 13 6 12 85 := by decide +kernel
theorem i282_13 : zi 282 13 14 1 7 0 := by decide +kernel
theorem i282_14 : zi 282 14 15 9 0 0 := by decide +kernel
theorem i282_15 : zi 282 15 16 18 18 0 := by decide +kernel
theorem i282_18 : zi 282 18 19 0 0 0 := by decide +kernel
theorem i282_16 : zi 282 16 17 0 0 1 := by decide +kernel
theorem i282_17 : zi 282 17 18 17 19 0 := by decide +kernel
theorem i282_19 : zi 282 19 20 3 5 0 := by decide +kernel
theorem i282_20 : zi 282 20 21 1 6 0 := by decide +kernel
theorem i282_21 : zi 282 21 22 18 34 0 := by decide +kernel
theorem i282_34 : zi 282 34 35 0 0 0 := by decide +kernel
theorem i282_22 : zi 282 22 23 2 0 0 := by decide +kernel
theorem i282_23 : zi 282 23 24 6 12 85 := by decide +kernel
theorem i282_24 : zi 282 24 25 1 7 0 := by decide +kernel
theorem i282_25 : zi 282 25 26 9 0 0 := by decide +kernel
theorem i282_26 : zi 282 26 27 18 32 0 := by decide +kernel
theorem i282_32 : zi 282 32 33 0 0 1 := by decide +kernel
theorem i282_33 : zi 282 33 34 17 35 0 := by decide +kernel
theorem i282_27 : zi 282 27 28 2 0 0 := by decide +kernel
theorem i282_28 : zi 282 28 29 6 12 86 := by decide +kernel
theorem i282_29 : zi 282 29 30 1 7 0 := by decide +kernel
theorem i282_30 : zi 282 30 31 9 0 0 := by decide +kernel
theorem i282_31 : zi 282 31 32 18 34 0 := by decide +kernel
theorem i282_35 : zi 282 35 36 3 6 0 := by decide +kernel
theorem i282_36 : zi 282 36 37 5 7 1 := by decide +kernel
theorem i282_37 : zi 282 37 38 17 6 0 := by decide +kernel
theorem i282_38 : zi 282 38 39 2 0 0 := by decide +kernel
theorem i282_39 : zi 282 39 40 6 12 2 := by decide +kernel
theorem i282_40 : zi 282 40 41 18 45 0 := by decide +kernel
theorem i282_45 : zi 282 45 46 2 0 0 := by decide +kernel
theorem i282_46 : zi 282 46 47 6 12 2 := by decide +kernel
theorem i282_47 : zi 282 47 48 18 50 0 := by decide +kernel
theorem i282_50 : zi 282 50 51 0 0 (-2) := by decide +kernel
theorem i282_48 : zi 282 48 49 0 0 (-3) := by decide +kernel
theorem i282_49 : zi 282 49 50 17 51 0 := by decide +kernel
theorem i282_51 : zi 282 51 52 25 0 0 := by decide +kernel
theorem i282_41 : zi 282 41 42 1 5 0 := by decide +kernel
theorem i282_42 : zi 282 42 43 18 52 0 := by decide +kernel
theorem i282_52 : zi 282 52 53 2 0 0 := by decide +kernel
theorem i282_53 : zi 282 53 54 1 1 0 := by decide +kernel
theorem i282_54 : zi 282 54 55 21 259 12 := by decide +kernel
theorem i282_55 : zi 282 55 56 18 65 0 := by decide +kernel
theorem i282_56 : zi 282 56 57 2 0 0 := by decide +kernel
theorem i282_57 : zi 282 57 58 6 12 53 := by decide +kernel
theorem i282_58 : zi 282 58 59 1 1 0 := by decide +kernel
theorem i282_59 : zi 282 59 60 8 0 0 := by decide +kernel
theorem i282_60 : zi 282 60 61 1 2 0 := by decide +kernel
theorem i282_61 : zi 282 61 62 13 9 0 := by decide +kernel
theorem i282_62 : zi 282 62 63 0 0 1 := by decide +kernel
theorem i282_63 : zi 282 63 64 13 5 0 := by decide +kernel
theorem i282_64 : zi 282 64 65 18 67 1 := by decide +kernel
theorem i282_65 : zi 282 65 66 0 0 (-4) := by decide +kernel
theorem i282_66 : zi 282 66 67 25 0 0 := by decide +kernel
theorem i282_67 : zi 282 67 68 2 0 0 := by decide +kernel
theorem i282_68 : zi 282 68 69 6 12 54 := by decide +kernel
theorem i282_69 : zi 282 69 70 1 1 0 := by decide +kernel
theorem i282_70 : zi 282 70 71 15 0 0 := by decide +kernel
theorem i282_71 : zi 282 71 72 8 0 0 := by decide +kernel
theorem i282_72 : zi 282 72 73 2 0 0 := by decide +kernel
theorem i282_73 : zi 282 73 74 6 12 54 := by decide +kernel
theorem i282_74 : zi 282 74 75 1 1 0 := by decide +kernel
theorem i282_75 : zi 282 75 76 8 0 0 := by decide +kernel
theorem i282_76 : zi 282 76 77 0 0 (-1) := by decide +kernel
theorem i282_77 : zi 282 77 78 19 80 1 := by decide +kernel
theorem i282_78 : zi 282 78 79 0 0 0 := by decide +kernel
theorem i282_79 : zi 282 79 80 17 81 0 := by decide +kernel
theorem i282_80 : zi 282 80 81 0 0 1 := by decide +kernel
theorem i282_81 : zi 282 81 82 13 1 0 := by decide +kernel
theorem i282_82 : zi 282 82 83 10 0 0 := by decide +kernel
theorem i282_83 : zi 282 83 84 1 3 0 := by decide +kernel
theorem i282_84 : zi 282 84 85 22 237 0 := by decide +kernel
theorem i282_85 : zi 282 85 86 3 7 0 := by decide +kernel
theorem i282_86 : zi 282 86 87 2 0 0 := by decide +kernel
theorem i282_87 : zi 282 87 88 6 12 22 := by decide +kernel
theorem fl_13_22 : zfl 13 12 22 22 (some 87) := by decide +kernel
theorem i282_88 : zi 282 88 89 1 7 0 := by decide +kernel
theorem i282_89 : zi 282 89 90 8 0 0 := by decide +kernel
theorem ar_87 : zar 87 0 6 := by decide +kernel
theorem i282_90 : zi 282 90 91 2 0 0 := by decide +kernel
theorem i282_91 : zi 282 91 92 6 12 21 := by decide +kernel
theorem i282_92 : zi 282 92 93 1 7 0 := by decide +kernel
theorem i282_93 : zi 282 93 94 8 0 0 := by decide +kernel
theorem i282_94 : zi 282 94 95 19 97 2 := by decide +kernel
theorem i282_97 : zi 282 97 98 2 0 0 := by decide +kernel
theorem i282_98 : zi 282 98 99 6 12 22 := by decide +kernel
theorem i282_99 : zi 282 99 100 1 7 0 := by decide +kernel
theorem i282_100 : zi 282 100 101 15 0 0 := by decide +kernel
theorem i282_101 : zi 282 101 102 8 0 0 := by decide +kernel
theorem i282_102 : zi 282 102 103 0 0 1 := by decide +kernel
theorem i282_103 : zi 282 103 104 13 0 0 := by decide +kernel
theorem i282_104 : zi 282 104 105 10 0 0 := by decide +kernel
theorem i282_105 : zi 282 105 106 2 0 0 := by decide +kernel
theorem i282_106 : zi 282 106 107 1 1 0 := by decide +kernel
theorem i282_107 : zi 282 107 108 1 3 0 := by decide +kernel
theorem i282_108 : zi 282 108 109 21 257 12 := by decide +kernel
theorem i282_109 : zi 282 109 110 1 4 0 := by decide +kernel
theorem i282_110 : zi 282 110 111 13 5 0 := by decide +kernel
theorem i282_111 : zi 282 111 112 18 114 1 := by decide +kernel
theorem i282_112 : zi 282 112 113 0 0 (-6) := by decide +kernel
theorem i282_113 : zi 282 113 114 17 115 0 := by decide +kernel
theorem i282_114 : zi 282 114 115 0 0 0 := by decide +kernel
theorem i282_115 : zi 282 115 116 25 0 0 := by decide +kernel
theorem i282_95 : zi 282 95 96 0 0 (-5) := by decide +kernel
theorem i282_96 : zi 282 96 97 25 0 0 := by decide +kernel
theorem i282_43 : zi 282 43 44 1 6 0 := by decide +kernel
theorem i282_44 : zi 282 44 45 18 52 0 := by decide +kernel
theorem ml_282 : z_ml 282 = 8 := by decide +kernel
theorem en_282 : ∀ (v0 v1 v2 v3 v4 : zV), z_ent 282 [v0, v1, v2, v3, v4] = [some v0, some v1, some v2, some v3, some v4, none, none, none] := fun v0 v1 v2 v3 v4 => by unfold z_ent; rw [ml_282]; rfl
set_option maxRecDepth 100000 in
theorem s282_6 {L : Nat} (x1 x2 x3 x4 x5 x6 x7 : Int32) (S : zS) (g0 : (¬ (3 ≤ x7)) → (x5 = 0) → zx 3 x7) (g1 : (¬ (3 ≤ x7)) → (¬ (x6 = 0)) → zx 3 x7) : zt L 282 6 [some (.inr (.inr 13)), some (.inl x1), some (.inl x2), some (.inl x3), some (.inl x4), some (.inl x5), some (.inl x6), some (.inl x7)] [] S (if (3 ≤ x7) then (.inl (38, [some (.inr (.inr 13)), some (.inl x1), some (.inl x2), some (.inl x3), some (.inl x4), some (.inl x5), some (.inl x6), some (.inl x7)], [], S)) else (.inl (6, [some (.inr (.inr 13)), some (.inl x1), some (.inl x2), some (.inl x3), some (.inl x4), some (.inl (zb ((¬ (x5 = 0)) ∨ (¬ ((S 144 x7.toNatClampNeg) = 0))))), some (.inl (zb ((¬ (x6 = 0)) ∧ (((S 144 x7.toNatClampNeg) = 0) ∨ (¬ ((S 145 x7.toNatClampNeg) = 0)))))), some (.inl (x7 + 1))], [], S))) := zr_1_7 i282_6 (zr_0 i282_7 kc_3 (zr_19_3 i282_8 (fun h2877 => zt_rfl) (fun h2878 => zr_1_5 i282_9 (zt_trans (zt_cast (zr_18_1 i282_10 (fun h2879 => zr_2_0 i282_11 (zr_6r i282_12 fl_13_85 (zr_1_7 i282_13 (zr_9 i282_14 ar_144 (g0 h2878 h2879) rfl rfl (zt_cast (zr_18_0 i282_15 (fun h2881 => zr_0 i282_18 kc_0 (zt_rfl)) (fun h2882 => zr_0 i282_16 kc_1 (zr_17 i282_17 (zt_rfl)))) (zm_c zz_s (zl_c (zl_t zz_01) zz_s) zz_s)))))) (fun h2880 => zr_0 i282_16 kc_1 (zr_17 i282_17 (zt_rfl)))) (zm_c zz_s (zl_c (zl_t zz_b1) zz_s) zz_s)) (zr_3_5 i282_19 (zr_1_6 i282_20 (zt_trans (zt_cast (zr_18_0 i282_21 (fun h2883 => zr_0 i282_34 kc_0 (zt_rfl)) (fun h2884 => zr_2_0 i282_22 (zr_6r i282_23 fl_13_85 (zr_1_7 i282_24 (zr_9 i282_25 ar_144 (g1 h2878 h2884) rfl rfl (zt_cast (zr_18_0 i282_26 (fun h2885 => zr_0 i282_32 kc_1 (zr_17 i282_33 (zt_rfl))) (fun h2886 => zr_2_0 i282_27 (zr_6r i282_28 fl_13_86 (zr_1_7 i282_29 (zr_9 i282_30 ar_145 (g1 h2878 h2884) rfl rfl (zt_cast (zr_18_0 i282_31 (fun h2887 => zr_0 i282_34 kc_0 (zt_rfl)) (fun h2888 => zr_0 i282_32 kc_1 (zr_17 i282_33 (zt_rfl)))) (zm_c zz_s (zl_c (zl_t zz_01) zz_s) zz_s))))))) (zm_c zz_s (zl_c (zl_t zz_1b) zz_s) zz_s))))))) (zm_c zz_s (zl_c (zl_t zz_0b) zz_s) zz_s)) (zr_3_6 i282_35 (zr_5_7 i282_36 kc_1 (zr_17 i282_37 (zt_rfl)))))))))))
def k282_6 (x1 x2 x3 x4 : Int32) (S : zS) (j : Nat) (a : Int32 × Int32) : Int32 × Int32 := ((zb ((¬ (a.1 = 0)) ∨ (¬ ((S 144 j) = 0)))), (zb ((¬ (a.2 = 0)) ∧ (((S 144 j) = 0) ∨ (¬ ((S 145 j) = 0))))))
set_option maxRecDepth 100000 in
theorem l282_6 {L : Nat} (x1 x2 x3 x4 : Int32) (S : zS) (i0 n : Nat) (a : Int32 × Int32) (hn : i0 + n < 2147483648) (hc0 : ∀ j, j < n → ¬ (3 ≤ (Int32.ofNat (i0 + j)))) (g0 : ∀ j, j < n → (¬ (3 ≤ (Int32.ofNat (i0 + j)))) → ((zfold (k282_6 x1 x2 x3 x4 S) i0 j a).1 = 0) → zx 3 (Int32.ofNat (i0 + j))) (g1 : ∀ j, j < n → (¬ (3 ≤ (Int32.ofNat (i0 + j)))) → (¬ ((zfold (k282_6 x1 x2 x3 x4 S) i0 j a).2 = 0)) → zx 3 (Int32.ofNat (i0 + j))) : zt L 282 6 [some (.inr (.inr 13)), some (.inl x1), some (.inl x2), some (.inl x3), some (.inl x4), some (.inl a.1), some (.inl a.2), some (.inl (Int32.ofNat i0))] [] S (.inl (6, [some (.inr (.inr 13)), some (.inl x1), some (.inl x2), some (.inl x3), some (.inl x4), some (.inl (zfold (k282_6 x1 x2 x3 x4 S) i0 n a).1), some (.inl (zfold (k282_6 x1 x2 x3 x4 S) i0 n a).2), some (.inl (Int32.ofNat (i0 + n)))], [], S)) := by
  induction n with
  | zero => exact zt_rfl
  | succ n ih =>
    have e1 := zk_ix (i0 + n) (by omega)
    have e2 := zk_add (i0 + n)
    refine zt_trans (ih (by omega) (fun j hj => hc0 j (by omega)) (fun j hj => g0 j (by omega)) (fun j hj => g1 j (by omega))) ?_
    refine zt_cast (s282_6 x1 x2 x3 x4 (zfold (k282_6 x1 x2 x3 x4 S) i0 n a).1 (zfold (k282_6 x1 x2 x3 x4 S) i0 n a).2 (Int32.ofNat (i0 + n)) S (by have hg := g0 n (by omega); first | exact hg | (simp only [e1]; exact hg)) (by have hg := g1 n (by omega); first | exact hg | (simp only [e1]; exact hg))) ?_
    rw [if_neg (show ¬ (3 ≤ (Int32.ofNat (i0 + n))) from (by have hg := hc0 n (by omega); first | exact hg | (simp only [e1]; exact hg)))]
    simp only [zfold, k282_6, e1, e2, ← Nat.add_assoc]
def K282_6 (x1 x2 x3 x4 x5 x6 : Int32) (i0 : Nat) (S : zS) : Int32 × Int32 := zfold (k282_6 x1 x2 x3 x4 S) i0 (3 - i0) (x5, x6)
def K282_6_c5 (x1 x2 x3 x4 x5 x6 : Int32) (i0 : Nat) (S : zS) : Int32 := (K282_6 x1 x2 x3 x4 x5 x6 i0 S).1
def K282_6_c6 (x1 x2 x3 x4 x5 x6 : Int32) (i0 : Nat) (S : zS) : Int32 := (K282_6 x1 x2 x3 x4 x5 x6 i0 S).2
set_option maxRecDepth 100000 in
theorem L282_6 {L : Nat} (x1 x2 x3 x4 x5 x6 : Int32) (i0 : Nat) (S : zS) (hi : i0 ≤ 10000) : zt L 282 6 [some (.inr (.inr 13)), some (.inl x1), some (.inl x2), some (.inl x3), some (.inl x4), some (.inl x5), some (.inl x6), some (.inl (Int32.ofNat i0))] [] S (.inl (38, [some (.inr (.inr 13)), some (.inl x1), some (.inl x2), some (.inl x3), some (.inl x4), some (.inl (K282_6_c5 x1 x2 x3 x4 x5 x6 i0 S)), some (.inl (K282_6_c6 x1 x2 x3 x4 x5 x6 i0 S)), some (.inl (Int32.ofNat (i0 + (3 - i0))))], [], S)) := by
  have hend : 3 ≤ Int32.ofNat (i0 + (3 - i0)) := by exact zc_le_end (show zn 3 3 from by unfold zn; decide) (by omega)
  refine zt_trans (l282_6 x1 x2 x3 x4  S i0 (3 - i0) (x5, x6) (by omega) (fun j hj => by exact zc_le (show zn 3 3 from by unfold zn; decide) hj (by omega)) (fun j hj _ _ => by exact zx_of (by omega) (by omega)) (fun j hj _ _ => by exact zx_of (by omega) (by omega))) ?_
  exact zt_cast (s282_6 x1 x2 x3 x4 (zfold (k282_6 x1 x2 x3 x4 S) i0 (3 - i0) (x5, x6)).1 (zfold (k282_6 x1 x2 x3 x4 S) i0 (3 - i0) (x5, x6)).2 (Int32.ofNat (i0 + (3 - i0))) S (fun h9 => absurd hend h9) (fun h9 => absurd hend h9)) (if_pos hend)
def F282 (a b c d : Int32) (S : zS) : Int32 := (if ((S 13 2) = 0) then ((if ((S 13 2) = 0) then ((-2) : Int32) else (-3)) : Int32) else (if ((K282_6_c5 a b c d 0 1 0 S) = 0) then ((if (((¬ (a < 0)) ∧ (¬ (((S 13 45) - 1) < a))) ∧ ((S 119 a.toNatClampNeg) = 0)) then ((if (((zshr (S 116 a.toNatClampNeg) b) &&& 1) = 0) then ((-4) : Int32) else (if ((S 87 (c / 36).toNatClampNeg) < (S 86 (c / 36).toNatClampNeg)) then ((if (((F257 a c (z_up (z_up S 117 a.toNatClampNeg ((S 117 a.toNatClampNeg) - (zb (¬ ((S 117 a.toNatClampNeg) = (-1)))))) 87 (c / 36).toNatClampNeg ((S 87 (c / 36).toNatClampNeg) + 1))) &&& d) = 0) then ((-6) : Int32) else 0) : Int32) else (-5))) : Int32) else (-4)) : Int32) else (if ((K282_6_c6 a b c d 0 1 0 S) = 0) then ((if (((¬ (a < 0)) ∧ (¬ (((S 13 45) - 1) < a))) ∧ ((S 119 a.toNatClampNeg) = 0)) then ((if (((zshr (S 116 a.toNatClampNeg) b) &&& 1) = 0) then ((-4) : Int32) else (if ((S 87 (c / 36).toNatClampNeg) < (S 86 (c / 36).toNatClampNeg)) then ((if (((F257 a c (z_up (z_up S 117 a.toNatClampNeg ((S 117 a.toNatClampNeg) - (zb (¬ ((S 117 a.toNatClampNeg) = (-1)))))) 87 (c / 36).toNatClampNeg ((S 87 (c / 36).toNatClampNeg) + 1))) &&& d) = 0) then ((-6) : Int32) else 0) : Int32) else (-5))) : Int32) else (-4)) : Int32) else (if ((S 13 2) = 0) then ((-2) : Int32) else (-3)))))
def G282 (a b c d : Int32) (S : zS) : zS := (if ((S 13 2) = 0) then S else (if ((K282_6_c5 a b c d 0 1 0 S) = 0) then (if (((¬ (a < 0)) ∧ (¬ (((S 13 45) - 1) < a))) ∧ ((S 119 a.toNatClampNeg) = 0)) then (if (((zshr (S 116 a.toNatClampNeg) b) &&& 1) = 0) then S else (if ((S 87 (c / 36).toNatClampNeg) < (S 86 (c / 36).toNatClampNeg)) then (z_up (z_up S 117 a.toNatClampNeg ((S 117 a.toNatClampNeg) - (zb (¬ ((S 117 a.toNatClampNeg) = (-1)))))) 87 (c / 36).toNatClampNeg ((S 87 (c / 36).toNatClampNeg) + 1)) else (z_up S 117 a.toNatClampNeg ((S 117 a.toNatClampNeg) - (zb (¬ ((S 117 a.toNatClampNeg) = (-1)))))))) else S) else (if ((K282_6_c6 a b c d 0 1 0 S) = 0) then (if (((¬ (a < 0)) ∧ (¬ (((S 13 45) - 1) < a))) ∧ ((S 119 a.toNatClampNeg) = 0)) then (if (((zshr (S 116 a.toNatClampNeg) b) &&& 1) = 0) then S else (if ((S 87 (c / 36).toNatClampNeg) < (S 86 (c / 36).toNatClampNeg)) then (z_up (z_up S 117 a.toNatClampNeg ((S 117 a.toNatClampNeg) - (zb (¬ ((S 117 a.toNatClampNeg) = (-1)))))) 87 (c / 36).toNatClampNeg ((S 87 (c / 36).toNatClampNeg) + 1)) else (z_up S 117 a.toNatClampNeg ((S 117 a.toNatClampNeg) - (zb (¬ ((S 117 a.toNatClampNeg) = (-1)))))))) else S) else S)))
set_option maxRecDepth 100000 in
theorem f282 {L : Nat} (a b c d : Int32) (S : zS) (g0 : (¬ ((S 13 2) = 0)) → ((K282_6_c5 a b c d 0 1 0 S) = 0) → ((¬ (a < 0)) ∧ (¬ (((S 13 45) - 1) < a))) → zx 40 a) (g1 : (¬ ((S 13 2) = 0)) → ((K282_6_c5 a b c d 0 1 0 S) = 0) → (((¬ (a < 0)) ∧ (¬ (((S 13 45) - 1) < a))) ∧ ((S 119 a.toNatClampNeg) = 0)) → zx 40 a) (g2 : (¬ ((S 13 2) = 0)) → ((K282_6_c5 a b c d 0 1 0 S) = 0) → (((¬ (a < 0)) ∧ (¬ (((S 13 45) - 1) < a))) ∧ ((S 119 a.toNatClampNeg) = 0)) → (¬ (((zshr (S 116 a.toNatClampNeg) b) &&& 1) = 0)) → zx 6 (c / 36)) (g3 : (¬ ((S 13 2) = 0)) → ((K282_6_c5 a b c d 0 1 0 S) = 0) → (((¬ (a < 0)) ∧ (¬ (((S 13 45) - 1) < a))) ∧ ((S 119 a.toNatClampNeg) = 0)) → (¬ (((zshr (S 116 a.toNatClampNeg) b) &&& 1) = 0)) → ((S 87 (c / 36).toNatClampNeg) < (S 86 (c / 36).toNatClampNeg)) → (¬ (((z_up (z_up S 117 a.toNatClampNeg ((S 117 a.toNatClampNeg) - (zb (¬ ((S 117 a.toNatClampNeg) = (-1)))))) 87 (c / 36).toNatClampNeg ((S 87 (c / 36).toNatClampNeg) + 1)) 111 a.toNatClampNeg) = (-1))) → zx 8 (S 111 a.toNatClampNeg)) (g4 : (¬ ((S 13 2) = 0)) → (¬ ((K282_6_c5 a b c d 0 1 0 S) = 0)) → ((K282_6_c6 a b c d 0 1 0 S) = 0) → ((¬ (a < 0)) ∧ (¬ (((S 13 45) - 1) < a))) → zx 40 a) (g5 : (¬ ((S 13 2) = 0)) → (¬ ((K282_6_c5 a b c d 0 1 0 S) = 0)) → ((K282_6_c6 a b c d 0 1 0 S) = 0) → (((¬ (a < 0)) ∧ (¬ (((S 13 45) - 1) < a))) ∧ ((S 119 a.toNatClampNeg) = 0)) → zx 40 a) (g6 : (¬ ((S 13 2) = 0)) → (¬ ((K282_6_c5 a b c d 0 1 0 S) = 0)) → ((K282_6_c6 a b c d 0 1 0 S) = 0) → (((¬ (a < 0)) ∧ (¬ (((S 13 45) - 1) < a))) ∧ ((S 119 a.toNatClampNeg) = 0)) → (¬ (((zshr (S 116 a.toNatClampNeg) b) &&& 1) = 0)) → zx 6 (c / 36)) (g7 : (¬ ((S 13 2) = 0)) → (¬ ((K282_6_c5 a b c d 0 1 0 S) = 0)) → ((K282_6_c6 a b c d 0 1 0 S) = 0) → (((¬ (a < 0)) ∧ (¬ (((S 13 45) - 1) < a))) ∧ ((S 119 a.toNatClampNeg) = 0)) → (¬ (((zshr (S 116 a.toNatClampNeg) b) &&& 1) = 0)) → ((S 87 (c / 36).toNatClampNeg) < (S 86 (c / 36).toNatClampNeg)) → (¬ (((z_up (z_up S 117 a.toNatClampNeg ((S 117 a.toNatClampNeg) - (zb (¬ ((S 117 a.toNatClampNeg) = (-1)))))) 87 (c / 36).toNatClampNeg ((S 87 (c / 36).toNatClampNeg) + 1)) 111 a.toNatClampNeg) = (-1))) → zx 8 (S 111 a.toNatClampNeg)) : zf L 282 [.inr (.inr 13), .inl a, .inl b, .inl c, .inl d] S (.inl (some (.inl (F282 a b c d S))), (G282 a b c d S), 0) := zf_of (en_282 _ _ _ _ _) (zr_0 i282_0 kc_0 (zr_3_5 i282_1 (zr_0 i282_2 kc_1 (zr_3_6 i282_3 (zr_0 i282_4 kc_0 (zr_3_7 i282_5 (zt_trans (L282_6 a b c d 0 1 0 S (by decide) ) (zr_2_0 i282_38 (zr_6 i282_39 fl_13_2 rfl (zt_cast (zr_18_0 i282_40 (fun h2889 => zr_2_0 i282_45 (zr_6 i282_46 fl_13_2 rfl (zt_trans (zt_cast (zr_18_0 i282_47 (fun h2891 => zr_0 i282_50 kc_m2 (zt_rfl)) (fun h2892 => zr_0 i282_48 kc_m3 (zr_17 i282_49 (zt_rfl)))) (zm_c zz_s (zl_c (zl_t zz_e) zz_s) zz_s)) (zr_25 i282_51)))) (fun h2890 => zr_1_5 i282_41 (zt_cast (zr_18_0 i282_42 (fun h2893 => zr_2_0 i282_52 (zr_1_1 i282_53 (zr_cv (zs_21_1 i282_54 na_259 ob_13 rfl) (f259 a S (fun h2895 => (g0 h2890 h2893 h2895))) (zt_cast (zr_18b_0 i282_55 (fun h2896 => zr_2_0 i282_56 (zr_6r i282_57 fl_13_53 (zr_1_1 i282_58 (zr_8 i282_59 ar_116 (g1 h2890 h2893 h2896) rfl rfl (zr_1_2 i282_60 (zr_13_9 i282_61 (zr_0 i282_62 kc_1 (zr_13_5 i282_63 (zt_cast (zr_18_1 i282_64 (fun h2898 => zr_0 i282_65 kc_m4 (zr_25 i282_66)) (fun h2899 => zr_2_0 i282_67 (zr_6r i282_68 fl_13_54 (zr_1_1 i282_69 (zr_15 i282_70 (zr_8 i282_71 ar_117 (g1 h2890 h2893 h2896) rfl rfl (zr_2_0 i282_72 (zr_6r i282_73 fl_13_54 (zr_1_1 i282_74 (zr_8 i282_75 ar_117 (g1 h2890 h2893 h2896) rfl rfl (zr_0 i282_76 kc_m1 (zt_trans (zt_cast (zr_19_1 i282_77 (fun h2900 => zr_0 i282_78 kc_0 (zr_17 i282_79 (zt_rfl))) (fun h2901 => zr_0 i282_80 kc_1 (zt_rfl))) (zm_c zz_s (zl_c (zl_t zz_01) zz_s) zz_s)) (zr_13_1 i282_81 (zr_10 i282_82 ar_117 (g1 h2890 h2893 h2896) rfl (zr_1_3 i282_83 (zr_cv (zs_22_1 i282_84 na_237 rfl) (f237 c (z_up S 117 a.toNatClampNeg ((S 117 a.toNatClampNeg) - (zb (¬ ((S 117 a.toNatClampNeg) = (-1)))))) ) (zr_3_7 i282_85 (zr_2_0 i282_86 (zr_6r i282_87 fl_13_22 (zr_1_7 i282_88 (zr_8 i282_89 ar_87 (g2 h2890 h2893 h2896 h2899) rfl (zupci rfl) (zr_2_0 i282_90 (zr_6r i282_91 fl_13_21 (zr_1_7 i282_92 (zr_8 i282_93 ar_86 (g2 h2890 h2893 h2896 h2899) rfl (zupci rfl) (zt_cast (zr_19_2 i282_94 (fun h2902 => zr_2_0 i282_97 (zr_6r i282_98 fl_13_22 (zr_1_7 i282_99 (zr_15 i282_100 (zr_8 i282_101 ar_87 (g2 h2890 h2893 h2896 h2899) rfl (zupci rfl) (zr_0 i282_102 kc_1 (zr_13_0 i282_103 (zr_10 i282_104 ar_87 (g2 h2890 h2893 h2896 h2899) rfl (zr_2_0 i282_105 (zr_1_1 i282_106 (zr_1_3 i282_107 (zr_cv (zs_21_2 i282_108 na_257 ob_13 rfl) (f257 a c (z_up (z_up S 117 a.toNatClampNeg ((S 117 a.toNatClampNeg) - (zb (¬ ((S 117 a.toNatClampNeg) = (-1)))))) 87 (c / 36).toNatClampNeg ((S 87 (c / 36).toNatClampNeg) + 1)) (g1 h2890 h2893 h2896) (fun h2904 => (zxc ((zupc rfl).trans (zupc rfl)) (g3 h2890 h2893 h2896 h2899 h2902 h2904)))) (zr_1_4 i282_109 (zr_13_5 i282_110 (zt_trans (zt_cast (zr_18_1 i282_111 (fun h2905 => zr_0 i282_112 kc_m6 (zr_17 i282_113 (zt_rfl))) (fun h2906 => zr_0 i282_114 kc_0 (zt_rfl))) (zm_c zz_s (zl_c (zl_t zz_e) zz_s) zz_s)) (zr_25 i282_115)))))))))))))))) (fun h2903 => zr_0 i282_95 kc_m5 (zr_25 i282_96))) (zm_r zz_e zz_e))))))))))))))))))))))))))) (zm_r zz_e zz_e)))))))))) (fun h2897 => zr_0 i282_65 kc_m4 (zr_25 i282_66))) (zm_r zz_e zz_e))))) (fun h2894 => zr_1_6 i282_43 (zt_cast (zr_18_0 i282_44 (fun h2907 => zr_2_0 i282_52 (zr_1_1 i282_53 (zr_cv (zs_21_1 i282_54 na_259 ob_13 rfl) (f259 a S (fun h2909 => (g4 h2890 h2894 h2907 h2909))) (zt_cast (zr_18b_0 i282_55 (fun h2910 => zr_2_0 i282_56 (zr_6r i282_57 fl_13_53 (zr_1_1 i282_58 (zr_8 i282_59 ar_116 (g5 h2890 h2894 h2907 h2910) rfl rfl (zr_1_2 i282_60 (zr_13_9 i282_61 (zr_0 i282_62 kc_1 (zr_13_5 i282_63 (zt_cast (zr_18_1 i282_64 (fun h2912 => zr_0 i282_65 kc_m4 (zr_25 i282_66)) (fun h2913 => zr_2_0 i282_67 (zr_6r i282_68 fl_13_54 (zr_1_1 i282_69 (zr_15 i282_70 (zr_8 i282_71 ar_117 (g5 h2890 h2894 h2907 h2910) rfl rfl (zr_2_0 i282_72 (zr_6r i282_73 fl_13_54 (zr_1_1 i282_74 (zr_8 i282_75 ar_117 (g5 h2890 h2894 h2907 h2910) rfl rfl (zr_0 i282_76 kc_m1 (zt_trans (zt_cast (zr_19_1 i282_77 (fun h2914 => zr_0 i282_78 kc_0 (zr_17 i282_79 (zt_rfl))) (fun h2915 => zr_0 i282_80 kc_1 (zt_rfl))) (zm_c zz_s (zl_c (zl_t zz_01) zz_s) zz_s)) (zr_13_1 i282_81 (zr_10 i282_82 ar_117 (g5 h2890 h2894 h2907 h2910) rfl (zr_1_3 i282_83 (zr_cv (zs_22_1 i282_84 na_237 rfl) (f237 c (z_up S 117 a.toNatClampNeg ((S 117 a.toNatClampNeg) - (zb (¬ ((S 117 a.toNatClampNeg) = (-1)))))) ) (zr_3_7 i282_85 (zr_2_0 i282_86 (zr_6r i282_87 fl_13_22 (zr_1_7 i282_88 (zr_8 i282_89 ar_87 (g6 h2890 h2894 h2907 h2910 h2913) rfl (zupci rfl) (zr_2_0 i282_90 (zr_6r i282_91 fl_13_21 (zr_1_7 i282_92 (zr_8 i282_93 ar_86 (g6 h2890 h2894 h2907 h2910 h2913) rfl (zupci rfl) (zt_cast (zr_19_2 i282_94 (fun h2916 => zr_2_0 i282_97 (zr_6r i282_98 fl_13_22 (zr_1_7 i282_99 (zr_15 i282_100 (zr_8 i282_101 ar_87 (g6 h2890 h2894 h2907 h2910 h2913) rfl (zupci rfl) (zr_0 i282_102 kc_1 (zr_13_0 i282_103 (zr_10 i282_104 ar_87 (g6 h2890 h2894 h2907 h2910 h2913) rfl (zr_2_0 i282_105 (zr_1_1 i282_106 (zr_1_3 i282_107 (zr_cv (zs_21_2 i282_108 na_257 ob_13 rfl) (f257 a c (z_up (z_up S 117 a.toNatClampNeg ((S 117 a.toNatClampNeg) - (zb (¬ ((S 117 a.toNatClampNeg) = (-1)))))) 87 (c / 36).toNatClampNeg ((S 87 (c / 36).toNatClampNeg) + 1)) (g5 h2890 h2894 h2907 h2910) (fun h2918 => (zxc ((zupc rfl).trans (zupc rfl)) (g7 h2890 h2894 h2907 h2910 h2913 h2916 h2918)))) (zr_1_4 i282_109 (zr_13_5 i282_110 (zt_trans (zt_cast (zr_18_1 i282_111 (fun h2919 => zr_0 i282_112 kc_m6 (zr_17 i282_113 (zt_rfl))) (fun h2920 => zr_0 i282_114 kc_0 (zt_rfl))) (zm_c zz_s (zl_c (zl_t zz_e) zz_s) zz_s)) (zr_25 i282_115)))))))))))))))) (fun h2917 => zr_0 i282_95 kc_m5 (zr_25 i282_96))) (zm_r zz_e zz_e))))))))))))))))))))))))))) (zm_r zz_e zz_e)))))))))) (fun h2911 => zr_0 i282_65 kc_m4 (zr_25 i282_66))) (zm_r zz_e zz_e))))) (fun h2908 => zr_2_0 i282_45 (zr_6 i282_46 fl_13_2 rfl (zt_trans (zt_cast (zr_18_0 i282_47 (fun h2921 => zr_0 i282_50 kc_m2 (zt_rfl)) (fun h2922 => zr_0 i282_48 kc_m3 (zr_17 i282_49 (zt_rfl)))) (zm_c zz_s (zl_c (zl_t zz_e) zz_s) zz_s)) (zr_25 i282_51))))) (zm_r zz_e zz_e)))) (zm_r zz_e zz_e)))) (zm_r zz_e zz_e)))))))))))
