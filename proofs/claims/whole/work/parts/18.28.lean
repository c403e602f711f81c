/-! the methods with loops, and what calls them (wip/whole/gen/gen18.py) -/
theorem i320_0 : zi 320 0 1 2 0 0 := by decide +kernel
theorem i320_1 : zi 320 1 2 14 0 0 := by decide +kernel
theorem i320_2 : zi 320 2 3 6 12 1 := by decide +kernel
theorem i320_3 : zi 320 3 4 0 0 1 := by decide +kernel
theorem i320_4 : zi 320 4 5 13 0 0 := by decide +kernel
theorem i320_5 : zi 320 5 6 7 12 1 := by decide +kernel
theorem i320_6 : zi 320 6 7 0 0 0 := by decide +kernel
theorem i320_7 : zi 320 7 8 3 1 0 := by decide +kernel
theorem i320_8 : zi 320 8 9 1 1 0 := by decide +kernel
theorem i320_9 : zi 320 9 10 0 0 6 := by decide +kernel
theorem i320_10 : zi 320 10 11 19 18 3 := by decide +kernel
theorem i320_11 : zi 320 11 12 2 0 0 := by decide +kernel
theorem i320_12 : zi 320 12 13 6 12 22 := by decide +kernel
theorem i320_13 : zi 320 13 14 1 1 0 := by decide +kernel
theorem i320_14 : zi 320 14 15 0 0 0 := by decide +kernel
theorem i320_15 : zi 320 15 16 10 0 0 := by decide +kernel
theorem i320_16 : zi 320 16 17 5 1 1 := by decide +kernel
theorem i320_17 : zi 320 17 18 17 8 0 := by decide +kernel
theorem i320_18 : zi 320 18 19 0 0 0 := by decide +kernel
theorem i320_19 : zi 320 19 20 3 1 0 := by decide +kernel
theorem i320_20 : zi 320 20 21 1 1 0 := by decide +kernel
theorem i320_21 : zi 320 21 22 2 0 0 := by decide +kernel
theorem i320_22 : zi 320 22 23 6 12 45 := by decide +kernel
theorem i320_23 : zi 320 23 24 19 42 3 := by decide +kernel
theorem i320_24 : zi 320 24 25 2 0 0 := by decide +kernel
theorem i320_25 : zi 320 25 26 6 12 56 := by decide +kernel
theorem i320_26 : zi 320 26 27 1 1 0 := by decide +kernel
theorem i320_27 : zi 320 27 28 9 0 0 := by decide +kernel
theorem i320_28 : zi 320 28 29 18 40 1 := by decide +kernel
theorem i320_29 : zi 320 29 30 2 0 0 := by decide +kernel
theorem i320_30 : zi 320 30 31 6 12 50 := by decide +kernel
theorem i320_31 : zi 320 31 32 1 1 0 := by decide +kernel
theorem i320_32 : zi 320 32 33 8 0 0 := by decide +kernel
theorem i320_33 : zi 320 33 34 2 0 0 := by decide +kernel
theorem i320_34 : zi 320 34 35 6 12 1 := by decide +kernel
theorem i320_35 : zi 320 35 36 19 40 1 := by decide +kernel
theorem i320_36 : zi 320 36 37 2 0 0 := by decide +kernel
theorem i320_37 : zi 320 37 38 1 1 0 := by decide +kernel
theorem i320_38 : zi 320 38 39 21 264 12 := by decide +kernel
theorem i320_39 : zi 320 39 40 3 2 0 := by decide +kernel
theorem i320_40 : zi 320 40 41 5 1 1 := by decide +kernel
theorem i320_41 : zi 320 41 42 17 20 0 := by decide +kernel
theorem i320_42 : zi 320 42 43 0 0 0 := by decide +kernel
theorem i320_43 : zi 320 43 44 3 1 0 := by decide +kernel
theorem i320_44 : zi 320 44 45 1 1 0 := by decide +kernel
theorem i320_45 : zi 320 45 46 2 0 0 := by decide +kernel
theorem i320_46 : zi 320 46 47 6 12 57 := by decide +kernel
theorem i320_47 : zi 320 47 48 19 65 3 := by decide +kernel
theorem i320_48 : zi 320 48 49 2 0 0 := by decide +kernel
theorem i320_49 : zi 320 49 50 6 12 63 := by decide +kernel
theorem i320_50 : zi 320 50 51 1 1 0 := by decide +kernel
theorem i320_51 : zi 320 51 52 8 0 0 := by decide +kernel
theorem i320_52 : zi 320 52 53 18 63 1 := by decide +kernel
theorem i320_53 : zi 320 53 54 2 0 0 := by decide +kernel
theorem i320_54 : zi 320 54 55 6 12 61 := by decide +kernel
theorem i320_55 : zi 320 55 56 1 1 0 := by decide +kernel
theorem i320_56 : zi 320 56 57 8 0 0 := by decide +kernel
theorem i320_57 : zi 320 57 58 2 0 0 := by decide +kernel
theorem i320_58 : zi 320 58 59 6 12 1 := by decide +kernel
theorem i320_59 : zi 320 59 60 19 63 1 := by decide +kernel
theorem i320_60 : zi 320 60 61 2 0 0 := by decide +kernel
theorem i320_61 : zi 320 61 62 1 1 0 := by decide +kernel
theorem i320_62 : zi 320 62 63 21 270 12 := by decide +kernel
theorem i320_63 : zi 320 63 64 5 1 1 := by decide +kernel
theorem i320_64 : zi 320 64 65 17 44 0 := by decide +kernel
theorem i320_65 : zi 320 65 66 0 0 0 := by decide +kernel
theorem i320_66 : zi 320 66 67 3 1 0 := by decide +kernel
theorem i320_67 : zi 320 67 68 1 1 0 := by decide +kernel
theorem i320_68 : zi 320 68 69 2 0 0 := by decide +kernel
theorem i320_69 : zi 320 69 70 6 12 57 := by decide +kernel
theorem i320_70 : zi 320 70 71 19 89 3 := by decide +kernel
theorem i320_71 : zi 320 71 72 2 0 0 := by decide +kernel
theorem i320_72 : zi 320 72 73 6 12 63 := by decide +kernel
theorem i320_73 : zi 320 73 74 1 1 0 := by decide +kernel
theorem i320_74 : zi 320 74 75 8 0 0 := by decide +kernel
theorem i320_75 : zi 320 75 76 0 0 1 := by decide +kernel
theorem i320_76 : zi 320 76 77 19 87 1 := by decide +kernel
theorem i320_77 : zi 320 77 78 2 0 0 := by decide +kernel
theorem i320_78 : zi 320 78 79 6 12 61 := by decide +kernel
theorem i320_79 : zi 320 79 80 1 1 0 := by decide +kernel
theorem i320_80 : zi 320 80 81 8 0 0 := by decide +kernel
theorem i320_81 : zi 320 81 82 2 0 0 := by decide +kernel
theorem i320_82 : zi 320 82 83 6 12 1 := by decide +kernel
theorem i320_83 : zi 320 83 84 19 87 3 := by decide +kernel
theorem i320_84 : zi 320 84 85 2 0 0 := by decide +kernel
theorem i320_85 : zi 320 85 86 1 1 0 := by decide +kernel
theorem i320_86 : zi 320 86 87 21 269 12 := by decide +kernel
theorem i320_87 : zi 320 87 88 5 1 1 := by decide +kernel
theorem i320_88 : zi 320 88 89 17 67 0 := by decide +kernel
theorem i320_89 : zi 320 89 90 0 0 0 := by decide +kernel
theorem i320_90 : zi 320 90 91 3 1 0 := by decide +kernel
theorem i320_91 : zi 320 91 92 1 1 0 := by decide +kernel
theorem i320_92 : zi 320 92 93 0 0 3 := by decide +kernel
theorem i320_93 : zi 320 93 94 19 132 3 := by decide +kernel
theorem i320_94 : zi 320 94 95 2 0 0 := by decide +kernel
theorem i320_95 : zi 320 95 96 6 12 65 := by decide +kernel
theorem i320_96 : zi 320 96 97 1 1 0 := by decide +kernel
theorem i320_97 : zi 320 97 98 8 0 0 := by decide +kernel
theorem i320_98 : zi 320 98 99 18 101 1 := by decide +kernel
theorem i320_99 : zi 320 99 100 0 0 1 := by decide +kernel
theorem i320_100 : zi 320 100 101 17 102 0 := by decide +kernel
theorem i320_101 : zi 320 101 102 0 0 0 := by decide +kernel
theorem i320_102 : zi 320 102 103 3 2 0 := by decide +kernel
theorem i320_103 : zi 320 103 104 2 0 0 := by decide +kernel
theorem i320_104 : zi 320 104 105 6 12 66 := by decide +kernel
theorem i320_105 : zi 320 105 106 1 1 0 := by decide +kernel
theorem i320_106 : zi 320 106 107 15 0 0 := by decide +kernel
theorem i320_107 : zi 320 107 108 8 0 0 := by decide +kernel
theorem i320_108 : zi 320 108 109 1 2 0 := by decide +kernel
theorem i320_109 : zi 320 109 110 18 115 0 := by decide +kernel
theorem i320_110 : zi 320 110 111 2 0 0 := by decide +kernel
theorem i320_111 : zi 320 111 112 6 12 67 := by decide +kernel
theorem i320_112 : zi 320 112 113 1 1 0 := by decide +kernel
theorem i320_113 : zi 320 113 114 8 0 0 := by decide +kernel
theorem i320_114 : zi 320 114 115 17 116 0 := by decide +kernel
theorem i320_115 : zi 320 115 116 0 0 0 := by decide +kernel
theorem i320_116 : zi 320 116 117 13 1 0 := by decide +kernel
theorem i320_117 : zi 320 117 118 10 0 0 := by decide +kernel
theorem i320_118 : zi 320 118 119 2 0 0 := by decide +kernel
theorem i320_119 : zi 320 119 120 6 12 67 := by decide +kernel
theorem i320_120 : zi 320 120 121 1 1 0 := by decide +kernel
theorem i320_121 : zi 320 121 122 1 2 0 := by decide +kernel
theorem i320_122 : zi 320 122 123 18 125 0 := by decide +kernel
theorem i320_123 : zi 320 123 124 0 0 0 := by decide +kernel
theorem i320_124 : zi 320 124 125 17 129 0 := by decide +kernel
theorem i320_125 : zi 320 125 126 2 0 0 := by decide +kernel
theorem i320_126 : zi 320 126 127 6 12 67 := by decide +kernel
theorem i320_127 : zi 320 127 128 1 1 0 := by decide +kernel
theorem i320_128 : zi 320 128 129 8 0 0 := by decide +kernel
theorem i320_129 : zi 320 129 130 10 0 0 := by decide +kernel
theorem i320_130 : zi 320 130 131 5 1 1 := by decide +kernel
theorem i320_131 : zi 320 131 132 17 91 0 := by decide +kernel
theorem i320_132 : zi 320 132 133 27 0 0 := by decide +kernel
theorem ml_320 : z_ml 320 = 3 := by decide +kernel
theorem en_320 : ∀ (v0 : zV), z_ent 320 [v0] = [some v0, none, none] := fun v0 => by unfold z_ent; rw [ml_320]; rfl
set_option maxRecDepth 100000 in
theorem s320_91 {L : Nat} (x1 : Int32) (u2 : Option zV) (S : zS) (g0 : (¬ (3 ≤ x1)) → zx 3 x1) : zt L 320 91 [some (.inr (.inr 13)), some (.inl x1), u2] [] S (if (3 ≤ x1) then (.inl (132, [some (.inr (.inr 13)), some (.inl x1), u2], [], S)) else (.inl (91, [some (.inr (.inr 13)), some (.inl (x1 + 1)), some (.inl (zb ((S 127 x1.toNatClampNeg) = 0)))], [], (z_up (z_up S 128 x1.toNatClampNeg ((S 128 x1.toNatClampNeg) - (if ((S 127 x1.toNatClampNeg) = 0) then ((S 129 x1.toNatClampNeg) : Int32) else 0))) 129 x1.toNatClampNeg (if ((S 127 x1.toNatClampNeg) = 0) then (0 : Int32) else (S 129 x1.toNatClampNeg)))))) := zr_1_1 i320_91 (zr_0 i320_92 kc_3 (zr_19_3 i320_93 (fun h3793 => zt_rfl) (fun h3794 => zr_2_0 i320_94 (zr_6r i320_95 fl_13_65 (zr_1_1 i320_96 (zr_8 i320_97 ar_127 (g0 h3794) rfl rfl (zt_trans (zt_cast (zr_18_1 i320_98 (fun h3795 => zr_0 i320_99 kc_1 (zr_17 i320_100 (zt_rfl))) (fun h3796 => zr_0 i320_101 kc_0 (zt_rfl))) (zm_c zz_s (zl_c (zl_t zz_10) zz_s) zz_s)) (zr_3_2 i320_102 (zr_2_0 i320_103 (zr_6r i320_104 fl_13_66 (zr_1_1 i320_105 (zr_15 i320_106 (zr_8 i320_107 ar_128 (g0 h3794) rfl rfl (zr_1_2 i320_108 (zt_trans (zt_cast (zr_18b_0 i320_109 (fun h3797 => zr_2_0 i320_110 (zr_6r i320_111 fl_13_67 (zr_1_1 i320_112 (zr_8 i320_113 ar_129 (g0 h3794) rfl rfl (zr_17 i320_114 (zt_rfl)))))) (fun h3798 => zr_0 i320_115 kc_0 (zt_rfl))) (zm_c zz_s (zl_c (zl_t zz_e) zz_s) zz_s)) (zr_13_1 i320_116 (zr_10 i320_117 ar_128 (g0 h3794) rfl (zr_2_0 i320_118 (zr_6r i320_119 fl_13_67 (zr_1_1 i320_120 (zr_1_2 i320_121 (zt_trans (zt_cast (zr_18b_0 i320_122 (fun h3799 => zr_0 i320_123 kc_0 (zr_17 i320_124 (zt_rfl))) (fun h3800 => zr_2_0 i320_125 (zr_6r i320_126 fl_13_67 (zr_1_1 i320_127 (zr_8 i320_128 ar_129 (g0 h3794) rfl (zupci rfl) (zt_rfl)))))) (zm_c zz_s (zl_c (zl_t zz_e) zz_s) zz_s)) (zr_10 i320_129 ar_129 (g0 h3794) rfl (zr_5_1 i320_130 kc_1 (zr_17 i320_131 (zt_rfl))))))))))))))))))))))))))
def k320_91 (j : Nat) (a : Option zV × zS) : Option zV × zS := ((some (.inl (zb ((a.2 127 j) = 0)))), (z_up (z_up a.2 128 j ((a.2 128 j) - (if ((a.2 127 j) = 0) then ((a.2 129 j) : Int32) else 0))) 129 j (if ((a.2 127 j) = 0) then (0 : Int32) else (a.2 129 j))))
set_option maxRecDepth 100000 in
theorem l320_91 {L : Nat} (i0 n : Nat) (a : Option zV × zS) (hn : i0 + n < 2147483648) (hc0 : ∀ j, j < n → ¬ (3 ≤ (Int32.ofNat (i0 + j)))) (g0 : ∀ j, j < n → (¬ (3 ≤ (Int32.ofNat (i0 + j)))) → zx 3 (Int32.ofNat (i0 + j))) : zt L 320 91 [some (.inr (.inr 13)), some (.inl (Int32.ofNat i0)), a.1] [] a.2 (.inl (91, [some (.inr (.inr 13)), some (.inl (Int32.ofNat (i0 + n))), (zfold (k320_91 ) i0 n a).1], [], (zfold (k320_91 ) i0 n a).2)) := by
  induction n with
  | zero => exact zt_rfl
  | succ n ih =>
    have e1 := zk_ix (i0 + n) (by omega)
    have e2 := zk_add (i0 + n)
    refine zt_trans (ih (by omega) (fun j hj => hc0 j (by omega)) (fun j hj => g0 j (by omega))) ?_
    refine zt_cast (s320_91 (Int32.ofNat (i0 + n)) (zfold (k320_91 ) i0 n a).1 (zfold (k320_91 ) i0 n a).2 (by have hg := g0 n (by omega); first | exact hg | (simp only [e1]; exact hg))) ?_
    rw [if_neg (show ¬ (3 ≤ (Int32.ofNat (i0 + n))) from (by have hg := hc0 n (by omega); first | exact hg | (simp only [e1]; exact hg)))]
    simp only [zfold, k320_91, e1, e2, ← Nat.add_assoc]
def K320_91 (u2 : Option zV) (i0 : Nat) (S : zS) : Option zV × zS := zfold (k320_91 ) i0 (3 - i0) (u2, S)
def K320_91_c2 (u2 : Option zV) (i0 : Nat) (S : zS) : Option zV := (K320_91 u2 i0 S).1
def K320_91_S (u2 : Option zV) (i0 : Nat) (S : zS) : zS := (K320_91 u2 i0 S).2
set_option maxRecDepth 100000 in
theorem L320_91 {L : Nat} (u2 : Option zV) (i0 : Nat) (S : zS) (hi : i0 ≤ 10000) : zt L 320 91 [some (.inr (.inr 13)), some (.inl (Int32.ofNat i0)), u2] [] S (.inl (132, [some (.inr (.inr 13)), some (.inl (Int32.ofNat (i0 + (3 - i0)))), (K320_91_c2 u2 i0 S)], [], (K320_91_S u2 i0 S))) := by
  have hend : 3 ≤ Int32.ofNat (i0 + (3 - i0)) := by exact zc_le_end (show zn 3 3 from by unfold zn; decide) (by omega)
  refine zt_trans (l320_91    i0 (3 - i0) (u2, S) (by omega) (fun j hj => by exact zc_le (show zn 3 3 from by unfold zn; decide) hj (by omega)) (fun j hj _ => by exact zx_of (by omega) (by omega))) ?_
  exact zt_cast (s320_91 (Int32.ofNat (i0 + (3 - i0))) (zfold (k320_91 ) i0 (3 - i0) (u2, S)).1 (zfold (k320_91 ) i0 (3 - i0) (u2, S)).2 (fun h9 => absurd hend h9)) (if_pos hend)
set_option maxRecDepth 100000 in
theorem s320_67 {L : Nat} (x1 : Int32) (u2 : Option zV) (S : zS) (g0 : (¬ ((S 13 57) ≤ x1)) → zx 40 x1) (g1 : (¬ ((S 13 57) ≤ x1)) → ((S 125 x1.toNatClampNeg) = 1) → (¬ ((S 13 1) ≤ (S 123 x1.toNatClampNeg))) → zx 3 (S 122 x1.toNatClampNeg)) : zt L 320 67 [some (.inr (.inr 13)), some (.inl x1), u2] [] S (if ((S 13 57) ≤ x1) then (.inl (89, [some (.inr (.inr 13)), some (.inl x1), u2], [], S)) else (.inl (67, [some (.inr (.inr 13)), some (.inl (x1 + 1)), u2], [], (if ((S 125 x1.toNatClampNeg) = 1) then (if ((S 13 1) ≤ (S 123 x1.toNatClampNeg)) then S else (G269 x1 S)) else S)))) := zr_1_1 i320_67 (zr_2_0 i320_68 (zr_6 i320_69 fl_13_57 rfl (zr_19_3 i320_70 (fun h3801 => zt_rfl) (fun h3802 => zr_2_0 i320_71 (zr_6r i320_72 fl_13_63 (zr_1_1 i320_73 (zr_8 i320_74 ar_125 (g0 h3802) rfl rfl (zr_0 i320_75 kc_1 (zt_trans (zt_cast (zr_19_1 i320_76 (fun h3803 => zr_2_0 i320_77 (zr_6r i320_78 fl_13_61 (zr_1_1 i320_79 (zr_8 i320_80 ar_123 (g0 h3802) rfl rfl (zr_2_0 i320_81 (zr_6 i320_82 fl_13_1 rfl (zt_cast (zr_19_3 i320_83 (fun h3805 => zt_rfl) (fun h3806 => zr_2_0 i320_84 (zr_1_1 i320_85 (zr_cn (zs_21_1 i320_86 na_269 ob_13 rfl) (f269 x1 S (g0 h3802) (g1 h3802 h3803 h3806)) (zt_rfl))))) (zm_c zz_s zz_s zz_e)))))))) (fun h3804 => zt_rfl)) (zm_c zz_s zz_s zz_e)) (zr_5_1 i320_87 kc_1 (zr_17 i320_88 (zt_rfl))))))))))))
def k320_67 (j : Nat) (a : zS) : zS := (if ((a 125 j) = 1) then (if ((a 13 1) ≤ (a 123 j)) then a else (G269 (Int32.ofNat j) a)) else a)
set_option maxRecDepth 100000 in
theorem l320_67 {L : Nat} (u2 : Option zV) (i0 n : Nat) (a : zS) (hn : i0 + n < 2147483648) (hc0 : ∀ j, j < n → ¬ (((zfold (k320_67 ) i0 j a) 13 57) ≤ (Int32.ofNat (i0 + j)))) (g0 : ∀ j, j < n → (¬ (((zfold (k320_67 ) i0 j a) 13 57) ≤ (Int32.ofNat (i0 + j)))) → zx 40 (Int32.ofNat (i0 + j))) (g1 : ∀ j, j < n → (¬ (((zfold (k320_67 ) i0 j a) 13 57) ≤ (Int32.ofNat (i0 + j)))) → (((zfold (k320_67 ) i0 j a) 125 (i0 + j)) = 1) → (¬ (((zfold (k320_67 ) i0 j a) 13 1) ≤ ((zfold (k320_67 ) i0 j a) 123 (i0 + j)))) → zx 3 ((zfold (k320_67 ) i0 j a) 122 (i0 + j))) : zt L 320 67 [some (.inr (.inr 13)), some (.inl (Int32.ofNat i0)), u2] [] a (.inl (67, [some (.inr (.inr 13)), some (.inl (Int32.ofNat (i0 + n))), u2], [], (zfold (k320_67 ) i0 n a))) := by
  induction n with
  | zero => exact zt_rfl
  | succ n ih =>
    have e1 := zk_ix (i0 + n) (by omega)
    have e2 := zk_add (i0 + n)
    refine zt_trans (ih (by omega) (fun j hj => hc0 j (by omega)) (fun j hj => g0 j (by omega)) (fun j hj => g1 j (by omega))) ?_
    refine zt_cast (s320_67 (Int32.ofNat (i0 + n)) u2 (zfold (k320_67 ) i0 n a) (by have hg := g0 n (by omega); first | exact hg | (simp only [e1]; exact hg)) (by have hg := g1 n (by omega); first | exact hg | (simp only [e1]; exact hg))) ?_
    rw [if_neg (show ¬ (((zfold (k320_67 ) i0 n a) 13 57) ≤ (Int32.ofNat (i0 + n))) from (by have hg := hc0 n (by omega); first | exact hg | (simp only [e1]; exact hg)))]
    simp only [zfold, k320_67, e1, e2, ← Nat.add_assoc]
def K320_67 (u2 : Option zV) (i0 : Nat) (S : zS) : zS := zfold (k320_67 ) i0 ((S 13 57).toNatClampNeg - i0) S
def K320_67_S (u2 : Option zV) (i0 : Nat) (S : zS) : zS := (K320_67 u2 i0 S)
set_option maxRecDepth 100000 in
theorem L320_67 {L : Nat} (u2 : Option zV) (i0 : Nat) (S : zS) (hi : i0 ≤ 10000) (h0 : zn 40 (S 13 57)) (hA1 : zA 40 3 (S 122)) : zt L 320 67 [some (.inr (.inr 13)), some (.inl (Int32.ofNat i0)), u2] [] S (.inl (89, [some (.inr (.inr 13)), some (.inl (Int32.ofNat (i0 + ((S 13 57).toNatClampNeg - i0)))), u2], [], (K320_67_S u2 i0 S))) := by
  have hk122 : ∀ n, (zfold (k320_67 ) i0 n S) 122 = S 122 := fun n => zfold_keep (f := (k320_67 )) (fun (b : zS) => b 122) (fun j b => by unfold k320_67; exact (show (if ((b 125 j) = 1) then (if ((b 13 1) ≤ (b 123 j)) then b else (G269 (Int32.ofNat j) b)) else b) 122 = b 122 from (zite_k (zite_k rfl (w_G269_122 _ _)) rfl))) n S
  have hk13_57 : ∀ n, (zfold (k320_67 ) i0 n S) 13 57 = S 13 57 := fun n => zfold_keep (f := (k320_67 )) (fun (b : zS) => b 13 57) (fun j b => by unfold k320_67; exact (show (if ((b 125 j) = 1) then (if ((b 13 1) ≤ (b 123 j)) then b else (G269 (Int32.ofNat j) b)) else b) 13 57 = b 13 57 from (zite_rd (zite_rd rfl (w_G269_13_57 _ _)) rfl))) n S
  have hend : (zfold (k320_67 ) i0 ((S 13 57).toNatClampNeg - i0) S) 13 57 ≤ Int32.ofNat (i0 + ((S 13 57).toNatClampNeg - i0)) := by rw [hk13_57]; exact zc_le_end h0 (by omega)
  refine zt_trans (l320_67  u2  i0 ((S 13 57).toNatClampNeg - i0) S (by have := zn_cl h0; omega) (fun j hj => by rw [hk13_57]; exact zc_le h0 hj (by omega)) (fun j hj _ => by exact zx_of (by have := zn_cl h0; omega) (by have := zn_cl h0; omega)) (fun j hj _ _ _ => by rw [hk122 j]; have := zn_cl h0; exact hA1 _ (by omega))) ?_
  exact zt_cast (s320_67 (Int32.ofNat (i0 + ((S 13 57).toNatClampNeg - i0))) u2 (zfold (k320_67 ) i0 ((S 13 57).toNatClampNeg - i0) S) (fun h9 => absurd hend h9) (fun h9 => absurd hend h9)) (if_pos hend)
set_option maxRecDepth 100000 in
theorem s320_44 {L : Nat} (x1 : Int32) (u2 : Option zV) (S : zS) (g0 : (¬ ((S 13 57) ≤ x1)) → zx 40 x1) (g1 : (¬ ((S 13 57) ≤ x1)) → ((S 125 x1.toNatClampNeg) = 0) → ((S 123 x1.toNatClampNeg) = (S 13 1)) → zx 3 (S 122 x1.toNatClampNeg)) : zt L 320 44 [some (.inr (.inr 13)), some (.inl x1), u2] [] S (if ((S 13 57) ≤ x1) then (.inl (65, [some (.inr (.inr 13)), some (.inl x1), u2], [], S)) else (.inl (44, [some (.inr (.inr 13)), some (.inl (x1 + 1)), u2], [], (if ((S 125 x1.toNatClampNeg) = 0) then (if ((S 123 x1.toNatClampNeg) = (S 13 1)) then (G269 x1 (z_up (z_up S 123 x1.toNatClampNeg (S 13 1)) 126 x1.toNatClampNeg 0)) else S) else S)))) := zr_1_1 i320_44 (zr_2_0 i320_45 (zr_6 i320_46 fl_13_57 rfl (zr_19_3 i320_47 (fun h3807 => zt_rfl) (fun h3808 => zr_2_0 i320_48 (zr_6r i320_49 fl_13_63 (zr_1_1 i320_50 (zr_8 i320_51 ar_125 (g0 h3808) rfl rfl (zt_trans (zt_cast (zr_18_1 i320_52 (fun h3809 => zr_2_0 i320_53 (zr_6r i320_54 fl_13_61 (zr_1_1 i320_55 (zr_8 i320_56 ar_123 (g0 h3808) rfl rfl (zr_2_0 i320_57 (zr_6 i320_58 fl_13_1 rfl (zt_cast (zr_19_1 i320_59 (fun h3811 => zr_2_0 i320_60 (zr_1_1 i320_61 (zr_cn (zs_21_1 i320_62 na_270 ob_13 rfl) (f270 x1 S (g0 h3808) (g1 h3808 h3809 h3811)) (zt_rfl)))) (fun h3812 => zt_rfl)) (zm_c zz_s zz_s zz_e)))))))) (fun h3810 => zt_rfl)) (zm_c zz_s zz_s zz_e)) (zr_5_1 i320_63 kc_1 (zr_17 i320_64 (zt_rfl)))))))))))
def k320_44 (j : Nat) (a : zS) : zS := (if ((a 125 j) = 0) then (if ((a 123 j) = (a 13 1)) then (G269 (Int32.ofNat j) (z_up (z_up a 123 j (a 13 1)) 126 j 0)) else a) else a)
set_option maxRecDepth 100000 in
theorem l320_44 {L : Nat} (u2 : Option zV) (i0 n : Nat) (a : zS) (hn : i0 + n < 2147483648) (hc0 : ∀ j, j < n → ¬ (((zfold (k320_44 ) i0 j a) 13 57) ≤ (Int32.ofNat (i0 + j)))) (g0 : ∀ j, j < n → (¬ (((zfold (k320_44 ) i0 j a) 13 57) ≤ (Int32.ofNat (i0 + j)))) → zx 40 (Int32.ofNat (i0 + j))) (g1 : ∀ j, j < n → (¬ (((zfold (k320_44 ) i0 j a) 13 57) ≤ (Int32.ofNat (i0 + j)))) → (((zfold (k320_44 ) i0 j a) 125 (i0 + j)) = 0) → (((zfold (k320_44 ) i0 j a) 123 (i0 + j)) = ((zfold (k320_44 ) i0 j a) 13 1)) → zx 3 ((zfold (k320_44 ) i0 j a) 122 (i0 + j))) : zt L 320 44 [some (.inr (.inr 13)), some (.inl (Int32.ofNat i0)), u2] [] a (.inl (44, [some (.inr (.inr 13)), some (.inl (Int32.ofNat (i0 + n))), u2], [], (zfold (k320_44 ) i0 n a))) := by
  induction n with
  | zero => exact zt_rfl
  | succ n ih =>
    have e1 := zk_ix (i0 + n) (by omega)
    have e2 := zk_add (i0 + n)
    refine zt_trans (ih (by omega) (fun j hj => hc0 j (by omega)) (fun j hj => g0 j (by omega)) (fun j hj => g1 j (by omega))) ?_
    refine zt_cast (s320_44 (Int32.ofNat (i0 + n)) u2 (zfold (k320_44 ) i0 n a) (by have hg := g0 n (by omega); first | exact hg | (simp only [e1]; exact hg)) (by have hg := g1 n (by omega); first | exact hg | (simp only [e1]; exact hg))) ?_
    rw [if_neg (show ¬ (((zfold (k320_44 ) i0 n a) 13 57) ≤ (Int32.ofNat (i0 + n))) from (by have hg := hc0 n (by omega); first | exact hg | (simp only [e1]; exact hg)))]
    simp only [zfold, k320_44, e1, e2, ← Nat.add_assoc]
def K320_44 (u2 : Option zV) (i0 : Nat) (S : zS) : zS := zfold (k320_44 ) i0 ((S 13 57).toNatClampNeg - i0) S
def K320_44_S (u2 : Option zV) (i0 : Nat) (S : zS) : zS := (K320_44 u2 i0 S)
set_option maxRecDepth 100000 in
theorem L320_44 {L : Nat} (u2 : Option zV) (i0 : Nat) (S : zS) (hi : i0 ≤ 10000) (h0 : zn 40 (S 13 57)) (hA1 : zA 40 3 (S 122)) : zt L 320 44 [some (.inr (.inr 13)), some (.inl (Int32.ofNat i0)), u2] [] S (.inl (65, [some (.inr (.inr 13)), some (.inl (Int32.ofNat (i0 + ((S 13 57).toNatClampNeg - i0)))), u2], [], (K320_44_S u2 i0 S))) := by
  have hk122 : ∀ n, (zfold (k320_44 ) i0 n S) 122 = S 122 := fun n => zfold_keep (f := (k320_44 )) (fun (b : zS) => b 122) (fun j b => by unfold k320_44; exact (show (if ((b 125 j) = 0) then (if ((b 123 j) = (b 13 1)) then (G269 (Int32.ofNat j) (z_up (z_up b 123 j (b 13 1)) 126 j 0)) else b) else b) 122 = b 122 from (zite_k (zite_k ((w_G269_122 _ _).trans ((zupc rfl).trans (zupc rfl))) rfl) rfl))) n S
  have hk13_57 : ∀ n, (zfold (k320_44 ) i0 n S) 13 57 = S 13 57 := fun n => zfold_keep (f := (k320_44 )) (fun (b : zS) => b 13 57) (fun j b => by unfold k320_44; exact (show (if ((b 125 j) = 0) then (if ((b 123 j) = (b 13 1)) then (G269 (Int32.ofNat j) (z_up (z_up b 123 j (b 13 1)) 126 j 0)) else b) else b) 13 57 = b 13 57 from (zite_rd (zite_rd ((w_G269_13_57 _ _).trans ((zupci rfl).trans (zupci rfl))) rfl) rfl))) n S
  have hend : (zfold (k320_44 ) i0 ((S 13 57).toNatClampNeg - i0) S) 13 57 ≤ Int32.ofNat (i0 + ((S 13 57).toNatClampNeg - i0)) := by rw [hk13_57]; exact zc_le_end h0 (by omega)
  refine zt_trans (l320_44  u2  i0 ((S 13 57).toNatClampNeg - i0) S (by have := zn_cl h0; omega) (fun j hj => by rw [hk13_57]; exact zc_le h0 hj (by omega)) (fun j hj _ => by exact zx_of (by have := zn_cl h0; omega) (by have := zn_cl h0; omega)) (fun j hj _ _ _ => by rw [hk122 j]; have := zn_cl h0; exact hA1 _ (by omega))) ?_
  exact zt_cast (s320_44 (Int32.ofNat (i0 + ((S 13 57).toNatClampNeg - i0))) u2 (zfold (k320_44 ) i0 ((S 13 57).toNatClampNeg - i0) S) (fun h9 => absurd hend h9) (fun h9 => absurd hend h9)) (if_pos hend)
set_option maxRecDepth 100000 in
theorem s320_20 {L : Nat} (x1 : Int32) (u2 : Option zV) (S : zS) (g0 : (¬ ((S 13 45) ≤ x1)) → zx 40 x1) (g1 : zn 40 (S 13 45)) (g2 : zPa 40 40 (S 110)) (g3 : (¬ ((S 13 45) ≤ x1)) → ((S 119 x1.toNatClampNeg) = 0) → ((S 113 x1.toNatClampNeg) = (S 13 1)) → zn 10000 (x1 + 1)) (g4 : zn 40 (S 13 57)) (g5 : zA 40 40 (S 120)) (g6 : zA 40 3 (S 122)) : zt L 320 20 [some (.inr (.inr 13)), some (.inl x1), u2] [] S (if ((S 13 45) ≤ x1) then (.inl (42, [some (.inr (.inr 13)), some (.inl x1), u2], [], S)) else (.inl (20, [some (.inr (.inr 13)), some (.inl (x1 + 1)), (if ((S 119 x1.toNatClampNeg) = 0) then (if ((S 113 x1.toNatClampNeg) = (S 13 1)) then some (.inl (K264_18_c2 x1 (zb ((S 119 x1.toNatClampNeg) = 0)) (x1 + 1).toNatClampNeg (z_up S 119 x1.toNatClampNeg 1))) else u2) else u2)], [], (if ((S 119 x1.toNatClampNeg) = 0) then (if ((S 113 x1.toNatClampNeg) = (S 13 1)) then (G264 x1 S) else S) else S)))) := zr_1_1 i320_20 (zr_2_0 i320_21 (zr_6 i320_22 fl_13_45 rfl (zr_19_3 i320_23 (fun h3813 => zt_rfl) (fun h3814 => zr_2_0 i320_24 (zr_6r i320_25 fl_13_56 (zr_1_1 i320_26 (zr_9 i320_27 ar_119 (g0 h3814) rfl rfl (zt_trans (zt_cast (zr_18_1 i320_28 (fun h3815 => zr_2_0 i320_29 (zr_6r i320_30 fl_13_50 (zr_1_1 i320_31 (zr_8 i320_32 ar_113 (g0 h3814) rfl rfl (zr_2_0 i320_33 (zr_6 i320_34 fl_13_1 rfl (zt_cast (zr_19_1 i320_35 (fun h3817 => zr_2_0 i320_36 (zr_1_1 i320_37 (zr_cv (zs_21_1 i320_38 na_264 ob_13 rfl) (f264 x1 S (g0 h3814) (g1) (g2) (g3 h3814 h3815 h3817) (g4) (g5) (g6)) (zr_3_2 i320_39 (zt_rfl))))) (fun h3818 => zt_rfl)) (zm_c (zl_c zz_s (zl_c zz_s (zl_c zz_e zz_s))) zz_s zz_e)))))))) (fun h3816 => zt_rfl)) (zm_c (zl_c zz_s (zl_c zz_s (zl_c zz_e zz_s))) zz_s zz_e)) (zr_5_1 i320_40 kc_1 (zr_17 i320_41 (zt_rfl)))))))))))
def k320_20 (j : Nat) (a : Option zV × zS) : Option zV × zS := ((if ((a.2 119 j) = 0) then (if ((a.2 113 j) = (a.2 13 1)) then (some (.inl (K264_18_c2 (Int32.ofNat j) (zb ((a.2 119 j) = 0)) ((Int32.ofNat j) + 1).toNatClampNeg (z_up a.2 119 j 1))) : Option zV) else a.1) else a.1), (if ((a.2 119 j) = 0) then (if ((a.2 113 j) = (a.2 13 1)) then (G264 (Int32.ofNat j) a.2) else a.2) else a.2))
set_option maxRecDepth 100000 in
theorem l320_20 {L : Nat} (i0 n : Nat) (a : Option zV × zS) (hn : i0 + n < 2147483648) (hc0 : ∀ j, j < n → ¬ (((zfold (k320_20 ) i0 j a).2 13 45) ≤ (Int32.ofNat (i0 + j)))) (g0 : ∀ j, j < n → (¬ (((zfold (k320_20 ) i0 j a).2 13 45) ≤ (Int32.ofNat (i0 + j)))) → zx 40 (Int32.ofNat (i0 + j))) (g1 : ∀ j, j < n → zn 40 ((zfold (k320_20 ) i0 j a).2 13 45)) (g2 : ∀ j, j < n → zPa 40 40 ((zfold (k320_20 ) i0 j a).2 110)) (g3 : ∀ j, j < n → (¬ (((zfold (k320_20 ) i0 j a).2 13 45) ≤ (Int32.ofNat (i0 + j)))) → (((zfold (k320_20 ) i0 j a).2 119 (i0 + j)) = 0) → (((zfold (k320_20 ) i0 j a).2 113 (i0 + j)) = ((zfold (k320_20 ) i0 j a).2 13 1)) → zn 10000 ((Int32.ofNat (i0 + j)) + 1)) (g4 : ∀ j, j < n → zn 40 ((zfold (k320_20 ) i0 j a).2 13 57)) (g5 : ∀ j, j < n → zA 40 40 ((zfold (k320_20 ) i0 j a).2 120)) (g6 : ∀ j, j < n → zA 40 3 ((zfold (k320_20 ) i0 j a).2 122)) : zt L 320 20 [some (.inr (.inr 13)), some (.inl (Int32.ofNat i0)), a.1] [] a.2 (.inl (20, [some (.inr (.inr 13)), some (.inl (Int32.ofNat (i0 + n))), (zfold (k320_20 ) i0 n a).1], [], (zfold (k320_20 ) i0 n a).2)) := by
  induction n with
  | zero => exact zt_rfl
  | succ n ih =>
    have e1 := zk_ix (i0 + n) (by omega)
    have e2 := zk_add (i0 + n)
    refine zt_trans (ih (by omega) (fun j hj => hc0 j (by omega)) (fun j hj => g0 j (by omega)) (fun j hj => g1 j (by omega)) (fun j hj => g2 j (by omega)) (fun j hj => g3 j (by omega)) (fun j hj => g4 j (by omega)) (fun j hj => g5 j (by omega)) (fun j hj => g6 j (by omega))) ?_
    refine zt_cast (s320_20 (Int32.ofNat (i0 + n)) (zfold (k320_20 ) i0 n a).1 (zfold (k320_20 ) i0 n a).2 (by have hg := g0 n (by omega); first | exact hg | (simp only [e1]; exact hg)) (by have hg := g1 n (by omega); first | exact hg | (simp only [e1]; exact hg)) (by have hg := g2 n (by omega); first | exact hg | (simp only [e1]; exact hg)) (by have hg := g3 n (by omega); first | exact hg | (simp only [e1]; exact hg)) (by have hg := g4 n (by omega); first | exact hg | (simp only [e1]; exact hg)) (by have hg := g5 n (by omega); first | exact hg | (simp only [e1]; exact hg)) (by have hg := g6 n (by omega); first | exact hg | (simp only [e1]; exact hg))) ?_
    rw [if_neg (show ¬ (((zfold (k320_20 ) i0 n a).2 13 45) ≤ (Int32.ofNat (i0 + n))) from (by have hg := hc0 n (by omega); first | exact hg | (simp only [e1]; exact hg)))]
    simp only [zfold, k320_20, e1, e2, ← Nat.add_assoc]
set_option maxRecDepth 100000 in
theorem w_G269_110 (a : Int32) (S : zS) : G269 a S 110 = S 110 := (show (if ((S 127 (S 122 a.toNatClampNeg).toNatClampNeg) = 1) then (z_up (z_up S 126 a.toNatClampNeg ((S 126 a.toNatClampNeg) + 1)) 125 a.toNatClampNeg (if (((S 126 a.toNatClampNeg) + 1) = 3) then (3 : Int32) else 1)) else (z_up (z_up (z_up S 126 a.toNatClampNeg ((S 126 a.toNatClampNeg) + 1)) 125 a.toNatClampNeg 2) 128 (S 122 a.toNatClampNeg).toNatClampNeg ((S 128 (S 122 a.toNatClampNeg).toNatClampNeg) - 1))) 110 = S 110 from (zite_k ((zupc rfl).trans (zupc rfl)) ((zupc rfl).trans ((zupc rfl).trans (zupc rfl)))))
set_option maxRecDepth 100000 in
theorem w_K264_58_S_110 (x1 x2 : Int32) (i0 : Nat) (S : zS) : K264_58_S x1 x2 i0 S 110 = S 110 := zfold_keep (f := (k264_58 x1 x2 )) (fun (b : zS) => b 110) ((fun j b => by unfold k264_58; exact (show (if ((b 125 j) = 0) then (if ((b 119 (b 120 j).toNatClampNeg) = 0) then b else (G269 (Int32.ofNat j) (z_up (z_up b 123 j (b 13 1)) 126 j 0))) else b) 110 = b 110 from (zite_k (zite_k rfl ((w_G269_110 _ _).trans ((zupc rfl).trans (zupc rfl)))) rfl)))) _ _
set_option maxRecDepth 100000 in
theorem w_K264_18_S_110 (x1 x2 : Int32) (i0 : Nat) (S : zS) : K264_18_S x1 x2 i0 S 110 = S 110 := zfold_keep (f := (k264_18 x1 )) (fun (b : Int32 × zS) => b.2 110) ((fun j b => by unfold k264_18; exact (show (if ((b.2 119 j) = 0) then (if ((b.2 110 j) = (-1)) then b.2 else (if ((b.2 119 (b.2 110 j).toNatClampNeg) = 0) then b.2 else (if ((b.2 118 j) = 0) then (z_up b.2 119 j 1) else b.2))) else b.2) 110 = b.2 110 from (zite_k (zite_k rfl (zite_k rfl (zite_k (zupc rfl) rfl))) rfl)))) _ _
set_option maxRecDepth 100000 in
theorem w_G264_110 (a : Int32) (S : zS) : G264 a S 110 = S 110 := (show (K264_58_S a (K264_18_c2 a (zb ((S 119 a.toNatClampNeg) = 0)) (a + 1).toNatClampNeg (z_up S 119 a.toNatClampNeg 1)) 0 (K264_18_S a (zb ((S 119 a.toNatClampNeg) = 0)) (a + 1).toNatClampNeg (z_up S 119 a.toNatClampNeg 1))) 110 = S 110 from ((w_K264_58_S_110 _ _ _ _).trans ((w_K264_18_S_110 _ _ _ _).trans (zupc rfl))))
set_option maxRecDepth 100000 in
theorem w_K264_58_S_120 (x1 x2 : Int32) (i0 : Nat) (S : zS) : K264_58_S x1 x2 i0 S 120 = S 120 := zfold_keep (f := (k264_58 x1 x2 )) (fun (b : zS) => b 120) ((fun j b => by unfold k264_58; exact (show (if ((b 125 j) = 0) then (if ((b 119 (b 120 j).toNatClampNeg) = 0) then b else (G269 (Int32.ofNat j) (z_up (z_up b 123 j (b 13 1)) 126 j 0))) else b) 120 = b 120 from (zite_k (zite_k rfl ((w_G269_120 _ _).trans ((zupc rfl).trans (zupc rfl)))) rfl)))) _ _
set_option maxRecDepth 100000 in
theorem w_G264_120 (a : Int32) (S : zS) : G264 a S 120 = S 120 := (show (K264_58_S a (K264_18_c2 a (zb ((S 119 a.toNatClampNeg) = 0)) (a + 1).toNatClampNeg (z_up S 119 a.toNatClampNeg 1)) 0 (K264_18_S a (zb ((S 119 a.toNatClampNeg) = 0)) (a + 1).toNatClampNeg (z_up S 119 a.toNatClampNeg 1))) 120 = S 120 from ((w_K264_58_S_120 _ _ _ _).trans ((w_K264_18_S_120 _ _ _ _).trans (zupc rfl))))
set_option maxRecDepth 100000 in
theorem w_K264_58_S_122 (x1 x2 : Int32) (i0 : Nat) (S : zS) : K264_58_S x1 x2 i0 S 122 = S 122 := zfold_keep (f := (k264_58 x1 x2 )) (fun (b : zS) => b 122) ((fun j b => by unfold k264_58; exact (show (if ((b 125 j) = 0) then (if ((b 119 (b 120 j).toNatClampNeg) = 0) then b else (G269 (Int32.ofNat j) (z_up (z_up b 123 j (b 13 1)) 126 j 0))) else b) 122 = b 122 from (zite_k (zite_k rfl ((w_G269_122 _ _).trans ((zupc rfl).trans (zupc rfl)))) rfl)))) _ _
set_option maxRecDepth 100000 in
theorem w_G264_122 (a : Int32) (S : zS) : G264 a S 122 = S 122 := (show (K264_58_S a (K264_18_c2 a (zb ((S 119 a.toNatClampNeg) = 0)) (a + 1).toNatClampNeg (z_up S 119 a.toNatClampNeg 1)) 0 (K264_18_S a (zb ((S 119 a.toNatClampNeg) = 0)) (a + 1).toNatClampNeg (z_up S 119 a.toNatClampNeg 1))) 122 = S 122 from ((w_K264_58_S_122 _ _ _ _).trans ((w_K264_18_S_122 _ _ _ _).trans (zupc rfl))))
set_option maxRecDepth 100000 in
theorem w_G269_13_45 (a : Int32) (S : zS) : G269 a S 13 45 = S 13 45 := (show (if ((S 127 (S 122 a.toNatClampNeg).toNatClampNeg) = 1) then (z_up (z_up S 126 a.toNatClampNeg ((S 126 a.toNatClampNeg) + 1)) 125 a.toNatClampNeg (if (((S 126 a.toNatClampNeg) + 1) = 3) then (3 : Int32) else 1)) else (z_up (z_up (z_up S 126 a.toNatClampNeg ((S 126 a.toNatClampNeg) + 1)) 125 a.toNatClampNeg 2) 128 (S 122 a.toNatClampNeg).toNatClampNeg ((S 128 (S 122 a.toNatClampNeg).toNatClampNeg) - 1))) 13 45 = S 13 45 from (zite_rd ((zupci rfl).trans (zupci rfl)) ((zupci rfl).trans ((zupci rfl).trans (zupci rfl)))))
set_option maxRecDepth 100000 in
theorem w_K264_58_S_13_45 (x1 x2 : Int32) (i0 : Nat) (S : zS) : K264_58_S x1 x2 i0 S 13 45 = S 13 45 := zfold_keep (f := (k264_58 x1 x2 )) (fun (b : zS) => b 13 45) ((fun j b => by unfold k264_58; exact (show (if ((b 125 j) = 0) then (if ((b 119 (b 120 j).toNatClampNeg) = 0) then b else (G269 (Int32.ofNat j) (z_up (z_up b 123 j (b 13 1)) 126 j 0))) else b) 13 45 = b 13 45 from (zite_rd (zite_rd rfl ((w_G269_13_45 _ _).trans ((zupci rfl).trans (zupci rfl)))) rfl)))) _ _
set_option maxRecDepth 100000 in
theorem w_K264_18_S_13_45 (x1 x2 : Int32) (i0 : Nat) (S : zS) : K264_18_S x1 x2 i0 S 13 45 = S 13 45 := zfold_keep (f := (k264_18 x1 )) (fun (b : Int32 × zS) => b.2 13 45) ((fun j b => by unfold k264_18; exact (show (if ((b.2 119 j) = 0) then (if ((b.2 110 j) = (-1)) then b.2 else (if ((b.2 119 (b.2 110 j).toNatClampNeg) = 0) then b.2 else (if ((b.2 118 j) = 0) then (z_up b.2 119 j 1) else b.2))) else b.2) 13 45 = b.2 13 45 from (zite_rd (zite_rd rfl (zite_rd rfl (zite_rd (zupci rfl) rfl))) rfl)))) _ _
set_option maxRecDepth 100000 in
theorem w_G264_13_45 (a : Int32) (S : zS) : G264 a S 13 45 = S 13 45 := (show (K264_58_S a (K264_18_c2 a (zb ((S 119 a.toNatClampNeg) = 0)) (a + 1).toNatClampNeg (z_up S 119 a.toNatClampNeg 1)) 0 (K264_18_S a (zb ((S 119 a.toNatClampNeg) = 0)) (a + 1).toNatClampNeg (z_up S 119 a.toNatClampNeg 1))) 13 45 = S 13 45 from ((w_K264_58_S_13_45 _ _ _ _).trans ((w_K264_18_S_13_45 _ _ _ _).trans (zupci rfl))))
set_option maxRecDepth 100000 in
theorem w_K264_58_S_13_57 (x1 x2 : Int32) (i0 : Nat) (S : zS) : K264_58_S x1 x2 i0 S 13 57 = S 13 57 := zfold_keep (f := (k264_58 x1 x2 )) (fun (b : zS) => b 13 57) ((fun j b => by unfold k264_58; exact (show (if ((b 125 j) = 0) then (if ((b 119 (b 120 j).toNatClampNeg) = 0) then b else (G269 (Int32.ofNat j) (z_up (z_up b 123 j (b 13 1)) 126 j 0))) else b) 13 57 = b 13 57 from (zite_rd (zite_rd rfl ((w_G269_13_57 _ _).trans ((zupci rfl).trans (zupci rfl)))) rfl)))) _ _
set_option maxRecDepth 100000 in
theorem w_G264_13_57 (a : Int32) (S : zS) : G264 a S 13 57 = S 13 57 := (show (K264_58_S a (K264_18_c2 a (zb ((S 119 a.toNatClampNeg) = 0)) (a + 1).toNatClampNeg (z_up S 119 a.toNatClampNeg 1)) 0 (K264_18_S a (zb ((S 119 a.toNatClampNeg) = 0)) (a + 1).toNatClampNeg (z_up S 119 a.toNatClampNeg 1))) 13 57 = S 13 57 from ((w_K264_58_S_13_57 _ _ _ _).trans ((w_K264_18_S_13_57 _ _ _ _).trans (zupci rfl))))
def K320_20 (u2 : Option zV) (i0 : Nat) (S : zS) : Option zV × zS := zfold (k320_20 ) i0 ((S 13 45).toNatClampNeg - i0) (u2, S)
def K320_20_c2 (u2 : Option zV) (i0 : Nat) (S : zS) : Option zV := (K320_20 u2 i0 S).1
def K320_20_S (u2 : Option zV) (i0 : Nat) (S : zS) : zS := (K320_20 u2 i0 S).2
set_option maxRecDepth 100000 in
theorem L320_20 {L : Nat} (u2 : Option zV) (i0 : Nat) (S : zS) (hi : i0 ≤ 10000) (h0 : zn 40 (S 13 45)) (hp1 : zPa 40 40 (S 110)) (hz2 : zn 40 (S 13 57)) (hp3 : zA 40 40 (S 120)) (hp4 : zA 40 3 (S 122)) : zt L 320 20 [some (.inr (.inr 13)), some (.inl (Int32.ofNat i0)), u2] [] S (.inl (42, [some (.inr (.inr 13)), some (.inl (Int32.ofNat (i0 + ((S 13 45).toNatClampNeg - i0)))), (K320_20_c2 u2 i0 S)], [], (K320_20_S u2 i0 S))) := by
  have hk110 : ∀ n, (zfold (k320_20 ) i0 n (u2, S)).2 110 = S 110 := fun n => zfold_keep (f := (k320_20 )) (fun (b : Option zV × zS) => b.2 110) (fun j b => by unfold k320_20; exact (show (if ((b.2 119 j) = 0) then (if ((b.2 113 j) = (b.2 13 1)) then (G264 (Int32.ofNat j) b.2) else b.2) else b.2) 110 = b.2 110 from (zite_k (zite_k (w_G264_110 _ _) rfl) rfl))) n (u2, S)
  have hk120 : ∀ n, (zfold (k320_20 ) i0 n (u2, S)).2 120 = S 120 := fun n => zfold_keep (f := (k320_20 )) (fun (b : Option zV × zS) => b.2 120) (fun j b => by unfold k320_20; exact (show (if ((b.2 119 j) = 0) then (if ((b.2 113 j) = (b.2 13 1)) then (G264 (Int32.ofNat j) b.2) else b.2) else b.2) 120 = b.2 120 from (zite_k (zite_k (w_G264_120 _ _) rfl) rfl))) n (u2, S)
  have hk122 : ∀ n, (zfold (k320_20 ) i0 n (u2, S)).2 122 = S 122 := fun n => zfold_keep (f := (k320_20 )) (fun (b : Option zV × zS) => b.2 122) (fun j b => by unfold k320_20; exact (show (if ((b.2 119 j) = 0) then (if ((b.2 113 j) = (b.2 13 1)) then (G264 (Int32.ofNat j) b.2) else b.2) else b.2) 122 = b.2 122 from (zite_k (zite_k (w_G264_122 _ _) rfl) rfl))) n (u2, S)
  have hk13_45 : ∀ n, (zfold (k320_20 ) i0 n (u2, S)).2 13 45 = S 13 45 := fun n => zfold_keep (f := (k320_20 )) (fun (b : Option zV × zS) => b.2 13 45) (fun j b => by unfold k320_20; exact (show (if ((b.2 119 j) = 0) then (if ((b.2 113 j) = (b.2 13 1)) then (G264 (Int32.ofNat j) b.2) else b.2) else b.2) 13 45 = b.2 13 45 from (zite_rd (zite_rd (w_G264_13_45 _ _) rfl) rfl))) n (u2, S)
  have hk13_57 : ∀ n, (zfold (k320_20 ) i0 n (u2, S)).2 13 57 = S 13 57 := fun n => zfold_keep (f := (k320_20 )) (fun (b : Option zV × zS) => b.2 13 57) (fun j b => by unfold k320_20; exact (show (if ((b.2 119 j) = 0) then (if ((b.2 113 j) = (b.2 13 1)) then (G264 (Int32.ofNat j) b.2) else b.2) else b.2) 13 57 = b.2 13 57 from (zite_rd (zite_rd (w_G264_13_57 _ _) rfl) rfl))) n (u2, S)
  have hend : (zfold (k320_20 ) i0 ((S 13 45).toNatClampNeg - i0) (u2, S)).2 13 45 ≤ Int32.ofNat (i0 + ((S 13 45).toNatClampNeg - i0)) := by rw [hk13_45]; exact zc_le_end h0 (by omega)
  refine zt_trans (l320_20    i0 ((S 13 45).toNatClampNeg - i0) (u2, S) (by have := zn_cl h0; omega) (fun j hj => by rw [hk13_45]; exact zc_le h0 hj (by omega)) (fun j hj _ => by exact zx_of (by have := zn_cl h0; omega) (by have := zn_cl h0; omega)) (fun j hj  => by rw [hk13_45 j]; exact h0) (fun j hj  => by exact zpc1 (hk110 j) hp1) (fun j hj _ _ _ => by have := zn_cl h0; rw [zk_add]; exact zn_of (by omega)) (fun j hj  => by rw [hk13_57 j]; exact hz2) (fun j hj  => by exact zpc1 (hk120 j) hp3) (fun j hj  => by exact zpc1 (hk122 j) hp4)) ?_
  exact zt_cast (s320_20 (Int32.ofNat (i0 + ((S 13 45).toNatClampNeg - i0))) (zfold (k320_20 ) i0 ((S 13 45).toNatClampNeg - i0) (u2, S)).1 (zfold (k320_20 ) i0 ((S 13 45).toNatClampNeg - i0) (u2, S)).2 (fun h9 => absurd hend h9) (by rw [hk13_45 _]; exact h0) (by exact zpc1 (hk110 _) hp1) (fun h9 => absurd hend h9) (by rw [hk13_57 _]; exact hz2) (by exact zpc1 (hk120 _) hp3) (by exact zpc1 (hk122 _) hp4)) (if_pos hend)
set_option maxRecDepth 100000 in
theorem s320_8 {L : Nat} (x1 : Int32) (S : zS) (g0 : (¬ (6 ≤ x1)) → zx 6 x1) : zt L 320 8 [some (.inr (.inr 13)), some (.inl x1), none] [] S (if (6 ≤ x1) then (.inl (18, [some (.inr (.inr 13)), some (.inl x1), none], [], S)) else (.inl (8, [some (.inr (.inr 13)), some (.inl (x1 + 1)), none], [], (z_up S 87 x1.toNatClampNeg 0)))) := zr_1_1 i320_8 (zr_0 i320_9 kc_6 (zr_19_3 i320_10 (fun h3819 => zt_rfl) (fun h3820 => zr_2_0 i320_11 (zr_6r i320_12 fl_13_22 (zr_1_1 i320_13 (zr_0 i320_14 kc_0 (zr_10 i320_15 ar_87 (g0 h3820) rfl (zr_5_1 i320_16 kc_1 (zr_17 i320_17 (zt_rfl))))))))))
def k320_8 (j : Nat) (a : zS) : zS := (z_up a 87 j 0)
set_option maxRecDepth 100000 in
theorem l320_8 {L : Nat} (i0 n : Nat) (a : zS) (hn : i0 + n < 2147483648) (hc0 : ∀ j, j < n → ¬ (6 ≤ (Int32.ofNat (i0 + j)))) (g0 : ∀ j, j < n → (¬ (6 ≤ (Int32.ofNat (i0 + j)))) → zx 6 (Int32.ofNat (i0 + j))) : zt L 320 8 [some (.inr (.inr 13)), some (.inl (Int32.ofNat i0)), none] [] a (.inl (8, [some (.inr (.inr 13)), some (.inl (Int32.ofNat (i0 + n))), none], [], (zfold (k320_8 ) i0 n a))) := by
  induction n with
  | zero => exact zt_rfl
  | succ n ih =>
    have e1 := zk_ix (i0 + n) (by omega)
    have e2 := zk_add (i0 + n)
    refine zt_trans (ih (by omega) (fun j hj => hc0 j (by omega)) (fun j hj => g0 j (by omega))) ?_
    refine zt_cast (s320_8 (Int32.ofNat (i0 + n)) (zfold (k320_8 ) i0 n a) (by have hg := g0 n (by omega); first | exact hg | (simp only [e1]; exact hg))) ?_
    rw [if_neg (show ¬ (6 ≤ (Int32.ofNat (i0 + n))) from (by have hg := hc0 n (by omega); first | exact hg | (simp only [e1]; exact hg)))]
    simp only [zfold, k320_8, e1, e2, ← Nat.add_assoc]
def K320_8 (i0 : Nat) (S : zS) : zS := zfold (k320_8 ) i0 (6 - i0) S
def K320_8_S (i0 : Nat) (S : zS) : zS := (K320_8  i0 S)
set_option maxRecDepth 100000 in
theorem L320_8 {L : Nat} (i0 : Nat) (S : zS) (hi : i0 ≤ 10000) : zt L 320 8 [some (.inr (.inr 13)), some (.inl (Int32.ofNat i0)), none] [] S (.inl (18, [some (.inr (.inr 13)), some (.inl (Int32.ofNat (i0 + (6 - i0)))), none], [], (K320_8_S  i0 S))) := by
  have hend : 6 ≤ Int32.ofNat (i0 + (6 - i0)) := by exact zc_le_end (show zn 6 6 from by unfold zn; decide) (by omega)
  refine zt_trans (l320_8    i0 (6 - i0) S (by omega) (fun j hj => by exact zc_le (show zn 6 6 from by unfold zn; decide) hj (by omega)) (fun j hj _ => by exact zx_of (by omega) (by omega))) ?_
  exact zt_cast (s320_8 (Int32.ofNat (i0 + (6 - i0))) (zfold (k320_8 ) i0 (6 - i0) S) (fun h9 => absurd hend h9)) (if_pos hend)
set_option maxRecDepth 100000 in
theorem w_K320_8_S_13_45 (i0 : Nat) (S : zS) : K320_8_S  i0 S 13 45 = S 13 45 := zfold_keep (f := (k320_8 )) (fun (b : zS) => b 13 45) ((fun j b => by unfold k320_8; exact (show (z_up b 87 j 0) 13 45 = b 13 45 from (zupci rfl)))) _ _
set_option maxRecDepth 100000 in
theorem w_K320_8_S_110 (i0 : Nat) (S : zS) : K320_8_S  i0 S 110 = S 110 := zfold_keep (f := (k320_8 )) (fun (b : zS) => b 110) ((fun j b => by unfold k320_8; exact (show (z_up b 87 j 0) 110 = b 110 from (zupc rfl)))) _ _
set_option maxRecDepth 100000 in
theorem w_K320_8_S_13_57 (i0 : Nat) (S : zS) : K320_8_S  i0 S 13 57 = S 13 57 := zfold_keep (f := (k320_8 )) (fun (b : zS) => b 13 57) ((fun j b => by unfold k320_8; exact (show (z_up b 87 j 0) 13 57 = b 13 57 from (zupci rfl)))) _ _
set_option maxRecDepth 100000 in
theorem w_K320_8_S_120 (i0 : Nat) (S : zS) : K320_8_S  i0 S 120 = S 120 := zfold_keep (f := (k320_8 )) (fun (b : zS) => b 120) ((fun j b => by unfold k320_8; exact (show (z_up b 87 j 0) 120 = b 120 from (zupc rfl)))) _ _
set_option maxRecDepth 100000 in
theorem w_K320_8_S_122 (i0 : Nat) (S : zS) : K320_8_S  i0 S 122 = S 122 := zfold_keep (f := (k320_8 )) (fun (b : zS) => b 122) ((fun j b => by unfold k320_8; exact (show (z_up b 87 j 0) 122 = b 122 from (zupc rfl)))) _ _
set_option maxRecDepth 100000 in
theorem w_K320_20_S_13_57 (u2 : Option zV) (i0 : Nat) (S : zS) : K320_20_S u2 i0 S 13 57 = S 13 57 := zfold_keep (f := (k320_20 )) (fun (b : Option zV × zS) => b.2 13 57) ((fun j b => by unfold k320_20; exact (show (if ((b.2 119 j) = 0) then (if ((b.2 113 j) = (b.2 13 1)) then (G264 (Int32.ofNat j) b.2) else b.2) else b.2) 13 57 = b.2 13 57 from (zite_rd (zite_rd (w_G264_13_57 _ _) rfl) rfl)))) _ _
set_option maxRecDepth 100000 in
theorem w_K320_20_S_122 (u2 : Option zV) (i0 : Nat) (S : zS) : K320_20_S u2 i0 S 122 = S 122 := zfold_keep (f := (k320_20 )) (fun (b : Option zV × zS) => b.2 122) ((fun j b => by unfold k320_20; exact (show (if ((b.2 119 j) = 0) then (if ((b.2 113 j) = (b.2 13 1)) then (G264 (Int32.ofNat j) b.2) else b.2) else b.2) 122 = b.2 122 from (zite_k (zite_k (w_G264_122 _ _) rfl) rfl)))) _ _
set_option maxRecDepth 100000 in
theorem w_K320_44_S_13_57 (u2 : Option zV) (i0 : Nat) (S : zS) : K320_44_S u2 i0 S 13 57 = S 13 57 := zfold_keep (f := (k320_44 )) (fun (b : zS) => b 13 57) ((fun j b => by unfold k320_44; exact (show (if ((b 125 j) = 0) then (if ((b 123 j) = (b 13 1)) then (G269 (Int32.ofNat j) (z_up (z_up b 123 j (b 13 1)) 126 j 0)) else b) else b) 13 57 = b 13 57 from (zite_rd (zite_rd ((w_G269_13_57 _ _).trans ((zupci rfl).trans (zupci rfl))) rfl) rfl)))) _ _
set_option maxRecDepth 100000 in
theorem w_K320_44_S_122 (u2 : Option zV) (i0 : Nat) (S : zS) : K320_44_S u2 i0 S 122 = S 122 := zfold_keep (f := (k320_44 )) (fun (b : zS) => b 122) ((fun j b => by unfold k320_44; exact (show (if ((b 125 j) = 0) then (if ((b 123 j) = (b 13 1)) then (G269 (Int32.ofNat j) (z_up (z_up b 123 j (b 13 1)) 126 j 0)) else b) else b) 122 = b 122 from (zite_k (zite_k ((w_G269_122 _ _).trans ((zupc rfl).trans (zupc rfl))) rfl) rfl)))) _ _
def G320 (S : zS) : zS := (K320_91_S (K320_20_c2 (none : Option zV) 0 (K320_8_S 0 (z_up S 13 1 ((S 13 1) + 1)))) 0 (K320_67_S (K320_20_c2 (none : Option zV) 0 (K320_8_S 0 (z_up S 13 1 ((S 13 1) + 1)))) 0 (K320_44_S (K320_20_c2 (none : Option zV) 0 (K320_8_S 0 (z_up S 13 1 ((S 13 1) + 1)))) 0 (K320_20_S (none : Option zV) 0 (K320_8_S 0 (z_up S 13 1 ((S 13 1) + 1)))))))
set_option maxRecDepth 100000 in
theorem f320 {L : Nat} (S : zS) (g0 : zn 40 (S 13 45)) (g1 : zPa 40 40 (S 110)) (g2 : zn 40 (S 13 57)) (g3 : zA 40 40 (S 120)) (g4 : zA 40 3 (S 122)) : zf L 320 [.inr (.inr 13)] S (.inl none, (G320 S), 0) := zf_of (en_320 _) (zr_2_0 i320_0 (zr_14r i320_1 (zr_6 i320_2 fl_13_1 rfl (zr_0 i320_3 kc_1 (zr_13_0 i320_4 (zr_7 i320_5 fl_13_1 (zr_0 i320_6 kc_0 (zr_3_1 i320_7 (zt_trans (L320_8  0 (z_up S 13 1 ((S 13 1) + 1)) (by decide) ) (zr_0 i320_18 kc_0 (zr_3_1 i320_19 (zt_trans (L320_20 (none : Option zV) 0 (K320_8_S 0 (z_up S 13 1 ((S 13 1) + 1))) (by decide) (znv ((w_K320_8_S_13_45 _ _).trans (zupf rfl)) (g0)) (zpc1 ((w_K320_8_S_110 _ _).trans (zupc rfl)) (g1)) (znv ((w_K320_8_S_13_57 _ _).trans (zupf rfl)) (g2)) (zpc1 ((w_K320_8_S_120 _ _).trans (zupc rfl)) (g3)) (zpc1 ((w_K320_8_S_122 _ _).trans (zupc rfl)) (g4))) (zr_0 i320_42 kc_0 (zr_3_1 i320_43 (zt_trans (L320_44 ((K320_20_c2 (none : Option zV) 0 (K320_8_S 0 (z_up S 13 1 ((S 13 1) + 1)))) : Option zV) 0 (K320_20_S (none : Option zV) 0 (K320_8_S 0 (z_up S 13 1 ((S 13 1) + 1)))) (by decide) (znv ((w_K320_20_S_13_57 _ _ _).trans ((w_K320_8_S_13_57 _ _).trans (zupf rfl))) (g2)) (zpc1 ((w_K320_20_S_122 _ _ _).trans ((w_K320_8_S_122 _ _).trans (zupc rfl))) (g4))) (zr_0 i320_65 kc_0 (zr_3_1 i320_66 (zt_trans (L320_67 ((K320_20_c2 (none : Option zV) 0 (K320_8_S 0 (z_up S 13 1 ((S 13 1) + 1)))) : Option zV) 0 (K320_44_S (K320_20_c2 (none : Option zV) 0 (K320_8_S 0 (z_up S 13 1 ((S 13 1) + 1)))) 0 (K320_20_S (none : Option zV) 0 (K320_8_S 0 (z_up S 13 1 ((S 13 1) + 1))))) (by decide) (znv ((w_K320_44_S_13_57 _ _ _).trans ((w_K320_20_S_13_57 _ _ _).trans ((w_K320_8_S_13_57 _ _).trans (zupf rfl)))) (g2)) (zpc1 ((w_K320_44_S_122 _ _ _).trans ((w_K320_20_S_122 _ _ _).trans ((w_K320_8_S_122 _ _).trans (zupc rfl)))) (g4))) (zr_0 i320_89 kc_0 (zr_3_1 i320_90 (zt_trans (L320_91 ((K320_20_c2 (none : Option zV) 0 (K320_8_S 0 (z_up S 13 1 ((S 13 1) + 1)))) : Option zV) 0 (K320_67_S (K320_20_c2 (none : Option zV) 0 (K320_8_S 0 (z_up S 13 1 ((S 13 1) + 1)))) 0 (K320_44_S (K320_20_c2 (none : Option zV) 0 (K320_8_S 0 (z_up S 13 1 ((S 13 1) + 1)))) 0 (K320_20_S (none : Option zV) 0 (K320_8_S 0 (z_up S 13 1 ((S 13 1) + 1)))))) (by decide) ) (zr_27 i320_132))))))))))))))))))))))
