/-! the methods with loops, and what calls them (wip/whole/gen/gen18.py) -/
theorem i264_0 : zi 264 0 1 2 0 0 := by decide +kernel
theorem i264_1 : zi 264 1 2 6 12 56 := by decide +kernel
theorem i264_2 : zi 264 2 3 1 1 0 := by decide +kernel
theorem i264_3 : zi 264 3 4 9 0 0 := by decide +kernel
theorem i264_4 : zi 264 4 5 18 7 0 := by decide +kernel
theorem i264_7 : zi 264 7 8 0 0 1 := by decide +kernel
theorem i264_5 : zi 264 5 6 0 0 0 := by decide +kernel
theorem i264_6 : zi 264 6 7 17 8 0 := by decide +kernel
theorem i264_8 : zi 264 8 9 3 2 0 := by decide +kernel
theorem i264_9 : zi 264 9 10 2 0 0 := by decide +kernel
theorem i264_10 : zi 264 10 11 6 12 56 := by decide +kernel
theorem i264_11 : zi 264 11 12 1 1 0 := by decide +kernel
theorem i264_12 : zi 264 12 13 0 0 1 := by decide +kernel
theorem i264_13 : zi 264 13 14 11 0 0 := by decide +kernel
theorem i264_14 : zi 264 14 15 1 1 0 := by decide +kernel
theorem i264_15 : zi 264 15 16 0 0 1 := by decide +kernel
theorem i264_16 : zi 264 16 17 13 0 0 := by decide +kernel
theorem i264_17 : zi 264 17 18 3 3 0 := by decide +kernel
theorem i264_18 : zi 264 18 19 1 3 0 := by decide +kernel
theorem i264_19 : zi 264 19 20 2 0 0 := by decide +kernel
theorem i264_20 : zi 264 20 21 6 12 45 := by decide +kernel
theorem i264_21 : zi 264 21 22 19 56 3 := by decide +kernel
theorem i264_22 : zi 264 22 23 1 2 0 := by decide +kernel
theorem i264_23 : zi 264 23 24 18 56 5 := by decide +kernel
theorem i264_24 : zi 264 24 25 2 0 0 := by decide +kernel
theorem i264_25 : zi 264 25 26 6 12 56 := by decide +kernel
theorem i264_26 : zi 264 26 27 1 3 0 := by decide +kernel
theorem i264_27 : zi 264 27 28 9 0 0 := by decide +kernel
theorem i264_28 : zi 264 28 29 18 54 1 := by decide +kernel
theorem i264_29 : zi 264 29 30 2 0 0 := by decide +kernel
theorem i264_30 : zi 264 30 31 6 12 47 := by decide +kernel
theorem i264_31 : zi 264 31 32 1 3 0 := by decide +kernel
theorem i264_32 : zi 264 32 33 8 0 0 := by decide +kernel
theorem i264_33 : zi 264 33 34 0 0 (-1) := by decide +kernel
theorem i264_34 : zi 264 34 35 19 54 0 := by decide +kernel
theorem i264_35 : zi 264 35 36 2 0 0 := by decide +kernel
theorem i264_36 : zi 264 36 37 6 12 56 := by decide +kernel
theorem i264_37 : zi 264 37 38 2 0 0 := by decide +kernel
theorem i264_38 : zi 264 38 39 6 12 47 := by decide +kernel
theorem i264_39 : zi 264 39 40 1 3 0 := by decide +kernel
theorem i264_40 : zi 264 40 41 8 0 0 := by decide +kernel
theorem i264_41 : zi 264 41 42 9 0 0 := by decide +kernel
theorem i264_42 : zi 264 42 43 18 54 0 := by decide +kernel
theorem i264_43 : zi 264 43 44 2 0 0 := by decide +kernel
theorem i264_44 : zi 264 44 45 6 12 55 := by decide +kernel
theorem i264_45 : zi 264 45 46 1 3 0 := by decide +kernel
theorem i264_46 : zi 264 46 47 9 0 0 := by decide +kernel
theorem i264_47 : zi 264 47 48 18 54 1 := by decide +kernel
theorem i264_48 : zi 264 48 49 2 0 0 := by decide +kernel
theorem i264_49 : zi 264 49 50 6 12 56 := by decide +kernel
theorem i264_50 : zi 264 50 51 1 3 0 := by decide +kernel
theorem i264_51 : zi 264 51 52 0 0 1 := by decide +kernel
theorem i264_52 : zi 264 52 53 11 0 0 := by decide +kernel
theorem i264_53 : zi 264 53 54 5 2 1 := by decide +kernel
theorem i264_54 : zi 264 54 55 5 3 1 := by decide +kernel
theorem i264_55 : zi 264 55 56 17 18 0 := by decide +kernel
theorem i264_56 : zi 264 56 57 0 0 0 := by decide +kernel
theorem i264_57 : zi 264 57 58 3 3 0 := by decide +kernel
theorem i264_58 : zi 264 58 59 1 3 0 := by decide +kernel
theorem i264_59 : zi 264 59 60 2 0 0 := by decide +kernel
theorem i264_60 : zi 264 60 61 6 12 57 := by decide +kernel
theorem i264_61 : zi 264 61 62 19 82 3 := by decide +kernel
theorem i264_62 : zi 264 62 63 1 2 0 := by decide +kernel
theorem i264_63 : zi 264 63 64 18 82 5 := by decide +kernel
theorem i264_64 : zi 264 64 65 2 0 0 := by decide +kernel
theorem i264_65 : zi 264 65 66 6 12 63 := by decide +kernel
theorem i264_66 : zi 264 66 67 1 3 0 := by decide +kernel
theorem i264_67 : zi 264 67 68 8 0 0 := by decide +kernel
theorem i264_68 : zi 264 68 69 18 80 1 := by decide +kernel
theorem i264_69 : zi 264 69 70 2 0 0 := by decide +kernel
theorem i264_70 : zi 264 70 71 6 12 56 := by decide +kernel
theorem i264_71 : zi 264 71 72 2 0 0 := by decide +kernel
theorem i264_72 : zi 264 72 73 6 12 58 := by decide +kernel
theorem i264_73 : zi 264 73 74 1 3 0 := by decide +kernel
theorem i264_74 : zi 264 74 75 8 0 0 := by decide +kernel
theorem i264_75 : zi 264 75 76 9 0 0 := by decide +kernel
theorem i264_76 : zi 264 76 77 18 80 0 := by decide +kernel
theorem i264_77 : zi 264 77 78 2 0 0 := by decide +kernel
theorem i264_78 : zi 264 78 79 1 3 0 := by decide +kernel
theorem i264_79 : zi 264 79 80 21 270 12 := by decide +kernel
theorem i264_80 : zi 264 80 81 5 3 1 := by decide +kernel
theorem i264_81 : zi 264 81 82 17 58 0 := by decide +kernel
theorem i264_82 : zi 264 82 83 1 2 0 := by decide +kernel
theorem i264_83 : zi 264 83 84 25 0 0 := by decide +kernel
theorem ml_264 : z_ml 264 = 4 := by decide +kernel
theorem en_264 : ∀ (v0 v1 : zV), z_ent 264 [v0, v1] = [some v0, some v1, none, none] := fun v0 v1 => by unfold z_ent; rw [ml_264]; rfl
set_option maxRecDepth 100000 in
theorem s264_58 {L : Nat} (x1 x2 x3 : Int32) (S : zS) (g0 : (¬ ((S 13 57) ≤ x3)) → (¬ (x2 ≤ 0)) → zx 40 x3) (g1 : (¬ ((S 13 57) ≤ x3)) → (¬ (x2 ≤ 0)) → ((S 125 x3.toNatClampNeg) = 0) → zx 40 (S 120 x3.toNatClampNeg)) (g2 : (¬ ((S 13 57) ≤ x3)) → (¬ (x2 ≤ 0)) → ((S 125 x3.toNatClampNeg) = 0) → (¬ ((S 119 (S 120 x3.toNatClampNeg).toNatClampNeg) = 0)) → zx 3 (S 122 x3.toNatClampNeg)) : zt L 264 58 [some (.inr (.inr 13)), some (.inl x1), some (.inl x2), some (.inl x3)] [] S (if ((S 13 57) ≤ x3) then (.inl (82, [some (.inr (.inr 13)), some (.inl x1), some (.inl x2), some (.inl x3)], [], S)) else (if (x2 ≤ 0) then (.inl (82, [some (.inr (.inr 13)), some (.inl x1), some (.inl x2), some (.inl x3)], [], S)) else (.inl (58, [some (.inr (.inr 13)), some (.inl x1), some (.inl x2), some (.inl (x3 + 1))], [], (if ((S 125 x3.toNatClampNeg) = 0) then (if ((S 119 (S 120 x3.toNatClampNeg).toNatClampNeg) = 0) then S else (G269 x3 (z_up (z_up S 123 x3.toNatClampNeg (S 13 1)) 126 x3.toNatClampNeg 0))) else S))))) := zr_1_3 i264_58 (zr_2_0 i264_59 (zr_6 i264_60 fl_13_57 rfl (zr_19_3 i264_61 (fun h2716 => zt_rfl) (fun h2717 => zr_1_2 i264_62 (zr_18_5 i264_63 (fun h2718 => zt_rfl) (fun h2719 => zr_2_0 i264_64 (zr_6r i264_65 fl_13_63 (zr_1_3 i264_66 (zr_8 i264_67 ar_125 (g0 h2717 h2719) rfl rfl (zt_trans (zt_cast (zr_18_1 i264_68 (fun h2720 => zr_2_0 i264_69 (zr_6r i264_70 fl_13_56 (zr_2_0 i264_71 (zr_6r i264_72 fl_13_58 (zr_1_3 i264_73 (zr_8 i264_74 ar_120 (g0 h2717 h2719) rfl rfl (zr_9 i264_75 ar_119 (g1 h2717 h2719 h2720) rfl rfl (zt_cast (zr_18_0 i264_76 (fun h2722 => zt_rfl) (fun h2723 => zr_2_0 i264_77 (zr_1_3 i264_78 (zr_cn (zs_21_1 i264_79 na_270 ob_13 rfl) (f270 x3 S (g0 h2717 h2719) (g2 h2717 h2719 h2720 h2723)) (zt_rfl))))) (zm_c zz_s zz_s zz_e))))))))) (fun h2721 => zt_rfl)) (zm_c zz_s zz_s zz_e)) (zr_5_3 i264_80 kc_1 (zr_17 i264_81 (zt_rfl)))))))))))))
set_option maxRecDepth 100000 in
theorem w_G269_120 (a : Int32) (S : zS) : G269 a S 120 = S 120 := (show (if ((S 127 (S 122 a.toNatClampNeg).toNatClampNeg) = 1) then (z_up (z_up S 126 a.toNatClampNeg ((S 126 a.toNatClampNeg) + 1)) 125 a.toNatClampNeg (if (((S 126 a.toNatClampNeg) + 1) = 3) then (3 : Int32) else 1)) else (z_up (z_up (z_up S 126 a.toNatClampNeg ((S 126 a.toNatClampNeg) + 1)) 125 a.toNatClampNeg 2) 128 (S 122 a.toNatClampNeg).toNatClampNeg ((S 128 (S 122 a.toNatClampNeg).toNatClampNeg) - 1))) 120 = S 120 from (zite_k ((zupc rfl).trans (zupc rfl)) ((zupc rfl).trans ((zupc rfl).trans (zupc rfl)))))
def k264_58 (x1 x2 : Int32) (j : Nat) (a : zS) : zS := (if ((a 125 j) = 0) then (if ((a 119 (a 120 j).toNatClampNeg) = 0) then a else (G269 (Int32.ofNat j) (z_up (z_up a 123 j (a 13 1)) 126 j 0))) else a)
set_option maxRecDepth 100000 in
theorem l264_58 {L : Nat} (x1 x2 : Int32) (i0 n : Nat) (a : zS) (hn : i0 + n < 2147483648) (hc0 : ∀ j, j < n → ¬ (((zfold (k264_58 x1 x2 ) i0 j a) 13 57) ≤ (Int32.ofNat (i0 + j)))) (hc1 : ∀ j, j < n → ¬ (x2 ≤ 0)) (g0 : ∀ j, j < n → (¬ (((zfold (k264_58 x1 x2 ) i0 j a) 13 57) ≤ (Int32.ofNat (i0 + j)))) → (¬ (x2 ≤ 0)) → zx 40 (Int32.ofNat (i0 + j))) (g1 : ∀ j, j < n → (¬ (((zfold (k264_58 x1 x2 ) i0 j a) 13 57) ≤ (Int32.ofNat (i0 + j)))) → (¬ (x2 ≤ 0)) → (((zfold (k264_58 x1 x2 ) i0 j a) 125 (i0 + j)) = 0) → zx 40 ((zfold (k264_58 x1 x2 ) i0 j a) 120 (i0 + j))) (g2 : ∀ j, j < n → (¬ (((zfold (k264_58 x1 x2 ) i0 j a) 13 57) ≤ (Int32.ofNat (i0 + j)))) → (¬ (x2 ≤ 0)) → (((zfold (k264_58 x1 x2 ) i0 j a) 125 (i0 + j)) = 0) → (¬ (((zfold (k264_58 x1 x2 ) i0 j a) 119 ((zfold (k264_58 x1 x2 ) i0 j a) 120 (i0 + j)).toNatClampNeg) = 0)) → zx 3 ((zfold (k264_58 x1 x2 ) i0 j a) 122 (i0 + j))) : zt L 264 58 [some (.inr (.inr 13)), some (.inl x1), some (.inl x2), some (.inl (Int32.ofNat i0))] [] a (.inl (58, [some (.inr (.inr 13)), some (.inl x1), some (.inl x2), some (.inl (Int32.ofNat (i0 + n)))], [], (zfold (k264_58 x1 x2 ) i0 n a))) := by
  induction n with
  | zero => exact zt_rfl
  | succ n ih =>
    have e1 := zk_ix (i0 + n) (by omega)
    have e2 := zk_add (i0 + n)
    refine zt_trans (ih (by omega) (fun j hj => hc0 j (by omega)) (fun j hj => hc1 j (by omega)) (fun j hj => g0 j (by omega)) (fun j hj => g1 j (by omega)) (fun j hj => g2 j (by omega))) ?_
    refine zt_cast (s264_58 x1 x2 (Int32.ofNat (i0 + n)) (zfold (k264_58 x1 x2 ) i0 n a) (by have hg := g0 n (by omega); first | exact hg | (simp only [e1]; exact hg)) (by have hg := g1 n (by omega); first | exact hg | (simp only [e1]; exact hg)) (by have hg := g2 n (by omega); first | exact hg | (simp only [e1]; exact hg))) ?_
    rw [if_neg (show ¬ (((zfold (k264_58 x1 x2 ) i0 n a) 13 57) ≤ (Int32.ofNat (i0 + n))) from (by have hg := hc0 n (by omega); first | exact hg | (simp only [e1]; exact hg)))]
    rw [if_neg (show ¬ (x2 ≤ 0) from (by have hg := hc1 n (by omega); first | exact hg | (simp only [e1]; exact hg)))]
    simp only [zfold, k264_58, e1, e2, ← Nat.add_assoc]
def K264_58 (x1 x2 : Int32) (i0 : Nat) (S : zS) : zS := zfold (k264_58 x1 x2 ) i0 (if x2 ≤ 0 then 0 else (S 13 57).toNatClampNeg - i0) S
def K264_58_S (x1 x2 : Int32) (i0 : Nat) (S : zS) : zS := (K264_58 x1 x2 i0 S)
set_option maxRecDepth 100000 in
theorem L264_58 {L : Nat} (x1 x2 : Int32) (i0 : Nat) (S : zS) (hi : i0 ≤ 10000) (h0 : zn 40 (S 13 57)) (hA1 : zA 40 40 (S 120)) (hA2 : zA 40 3 (S 122)) : zt L 264 58 [some (.inr (.inr 13)), some (.inl x1), some (.inl x2), some (.inl (Int32.ofNat i0))] [] S (.inl (82, [some (.inr (.inr 13)), some (.inl x1), some (.inl x2), some (.inl (Int32.ofNat (i0 + (if x2 ≤ 0 then 0 else (S 13 57).toNatClampNeg - i0))))], [], (K264_58_S x1 x2 i0 S))) := by
  have hk120 : ∀ n, (zfold (k264_58 x1 x2 ) i0 n S) 120 = S 120 := fun n => zfold_keep (f := (k264_58 x1 x2 )) (fun (b : zS) => b 120) (fun j b => by unfold k264_58; exact (show (if ((b 125 j) = 0) then (if ((b 119 (b 120 j).toNatClampNeg) = 0) then b else (G269 (Int32.ofNat j) (z_up (z_up b 123 j (b 13 1)) 126 j 0))) else b) 120 = b 120 from (zite_k (zite_k rfl ((w_G269_120 _ _).trans ((zupc rfl).trans (zupc rfl)))) rfl))) n S
  have hk122 : ∀ n, (zfold (k264_58 x1 x2 ) i0 n S) 122 = S 122 := fun n => zfold_keep (f := (k264_58 x1 x2 )) (fun (b : zS) => b 122) (fun j b => by unfold k264_58; exact (show (if ((b 125 j) = 0) then (if ((b 119 (b 120 j).toNatClampNeg) = 0) then b else (G269 (Int32.ofNat j) (z_up (z_up b 123 j (b 13 1)) 126 j 0))) else b) 122 = b 122 from (zite_k (zite_k rfl ((w_G269_122 _ _).trans ((zupc rfl).trans (zupc rfl)))) rfl))) n S
  have hk13_57 : ∀ n, (zfold (k264_58 x1 x2 ) i0 n S) 13 57 = S 13 57 := fun n => zfold_keep (f := (k264_58 x1 x2 )) (fun (b : zS) => b 13 57) (fun j b => by unfold k264_58; exact (show (if ((b 125 j) = 0) then (if ((b 119 (b 120 j).toNatClampNeg) = 0) then b else (G269 (Int32.ofNat j) (z_up (z_up b 123 j (b 13 1)) 126 j 0))) else b) 13 57 = b 13 57 from (zite_rd (zite_rd rfl ((w_G269_13_57 _ _).trans ((zupci rfl).trans (zupci rfl)))) rfl))) n S
  by_cases hx : x2 ≤ 0
  · simp only [K264_58_S, K264_58, if_pos hx]
    exact zt_cast (s264_58 x1 x2 (Int32.ofNat i0) S (fun _ h9 => absurd hx h9) (fun _ h9 => absurd hx h9) (fun _ h9 => absurd hx h9)) (zte_2 (Or.inr hx))
  · simp only [K264_58_S, K264_58, if_neg hx]
    refine zt_trans (l264_58 x1 x2 i0 ((S 13 57).toNatClampNeg - i0) S (by have := zn_cl h0; omega) (fun j hj => by rw [hk13_57 j]; exact zc_le h0 hj (by omega)) (fun j hj => hx) (fun j hj _ _ => by exact zx_of (by have := zn_cl h0; omega) (by have := zn_cl h0; omega)) (fun j hj _ _ _ => by rw [hk120 j]; have := zn_cl h0; exact hA1 _ (by omega)) (fun j hj _ _ _ _ => by rw [hk122 j]; have := zn_cl h0; exact hA2 _ (by omega))) ?_
    have hend : (zfold (k264_58 x1 x2 ) i0 ((S 13 57).toNatClampNeg - i0) S) 13 57 ≤ Int32.ofNat (i0 + ((S 13 57).toNatClampNeg - i0)) := by rw [hk13_57]; exact zc_le_end h0 (by omega)
    exact zt_cast (s264_58 x1 x2 _ _ (fun h9 => absurd hend h9) (fun h9 => absurd hend h9) (fun h9 => absurd hend h9)) (zte_2 (Or.inl hend))
set_option maxRecDepth 100000 in
theorem s264_18 {L : Nat} (x1 x2 x3 : Int32) (S : zS) (g0 : (¬ ((S 13 45) ≤ x3)) → (¬ (x2 ≤ 0)) → zx 40 x3) (g1 : (¬ ((S 13 45) ≤ x3)) → (¬ (x2 ≤ 0)) → ((S 119 x3.toNatClampNeg) = 0) → (¬ ((S 110 x3.toNatClampNeg) = (-1))) → zx 40 (S 110 x3.toNatClampNeg)) : zt L 264 18 [some (.inr (.inr 13)), some (.inl x1), some (.inl x2), some (.inl x3)] [] S (if ((S 13 45) ≤ x3) then (.inl (56, [some (.inr (.inr 13)), some (.inl x1), some (.inl x2), some (.inl x3)], [], S)) else (if (x2 ≤ 0) then (.inl (56, [some (.inr (.inr 13)), some (.inl x1), some (.inl x2), some (.inl x3)], [], S)) else (.inl (18, [some (.inr (.inr 13)), some (.inl x1), some (.inl (if ((S 119 x3.toNatClampNeg) = 0) then ((if ((S 110 x3.toNatClampNeg) = (-1)) then (x2 : Int32) else (if ((S 119 (S 110 x3.toNatClampNeg).toNatClampNeg) = 0) then (x2 : Int32) else (if ((S 118 x3.toNatClampNeg) = 0) then ((x2 + 1) : Int32) else x2))) : Int32) else x2)), some (.inl (x3 + 1))], [], (if ((S 119 x3.toNatClampNeg) = 0) then (if ((S 110 x3.toNatClampNeg) = (-1)) then S else (if ((S 119 (S 110 x3.toNatClampNeg).toNatClampNeg) = 0) then S else (if ((S 118 x3.toNatClampNeg) = 0) then (z_up S 119 x3.toNatClampNeg 1) else S))) else S))))) := zr_1_3 i264_18 (zr_2_0 i264_19 (zr_6 i264_20 fl_13_45 rfl (zr_19_3 i264_21 (fun h2724 => zt_rfl) (fun h2725 => zr_1_2 i264_22 (zr_18_5 i264_23 (fun h2726 => zt_rfl) (fun h2727 => zr_2_0 i264_24 (zr_6r i264_25 fl_13_56 (zr_1_3 i264_26 (zr_9 i264_27 ar_119 (g0 h2725 h2727) rfl rfl (zt_trans (zt_cast (zr_18_1 i264_28 (fun h2728 => zr_2_0 i264_29 (zr_6r i264_30 fl_13_47 (zr_1_3 i264_31 (zr_8 i264_32 ar_110 (g0 h2725 h2727) rfl rfl (zr_0 i264_33 kc_m1 (zt_cast (zr_19_0 i264_34 (fun h2730 => zt_rfl) (fun h2731 => zr_2_0 i264_35 (zr_6r i264_36 fl_13_56 (zr_2_0 i264_37 (zr_6r i264_38 fl_13_47 (zr_1_3 i264_39 (zr_8 i264_40 ar_110 (g0 h2725 h2727) rfl rfl (zr_9 i264_41 ar_119 (g1 h2725 h2727 h2728 h2731) rfl rfl (zt_cast (zr_18_0 i264_42 (fun h2732 => zt_rfl) (fun h2733 => zr_2_0 i264_43 (zr_6r i264_44 fl_13_55 (zr_1_3 i264_45 (zr_9 i264_46 ar_118 (g0 h2725 h2727) rfl rfl (zt_cast (zr_18_1 i264_47 (fun h2734 => zr_2_0 i264_48 (zr_6r i264_49 fl_13_56 (zr_1_3 i264_50 (zr_0 i264_51 kc_1 (zr_11 i264_52 ar_119 (g0 h2725 h2727) (zo_1) rfl (zr_5_2 i264_53 kc_1 (zt_rfl))))))) (fun h2735 => zt_rfl)) (zm_c (zl_c zz_s (zl_c zz_s (zl_c (zl_v zz_e) zz_s))) zz_s zz_e))))))) (zm_c (zl_c zz_s (zl_c zz_s (zl_c (zl_v zz_e) zz_s))) zz_s zz_e)))))))))) (zm_c (zl_c zz_s (zl_c zz_s (zl_c (zl_v zz_e) zz_s))) zz_s zz_e))))))) (fun h2729 => zt_rfl)) (zm_c (zl_c zz_s (zl_c zz_s (zl_c (zl_v zz_e) zz_s))) zz_s zz_e)) (zr_5_3 i264_54 kc_1 (zr_17 i264_55 (zt_rfl)))))))))))))
def k264_18 (x1 : Int32) (j : Nat) (a : Int32 × zS) : Int32 × zS := ((if ((a.2 119 j) = 0) then ((if ((a.2 110 j) = (-1)) then (a.1 : Int32) else (if ((a.2 119 (a.2 110 j).toNatClampNeg) = 0) then (a.1 : Int32) else (if ((a.2 118 j) = 0) then ((a.1 + 1) : Int32) else a.1))) : Int32) else a.1), (if ((a.2 119 j) = 0) then (if ((a.2 110 j) = (-1)) then a.2 else (if ((a.2 119 (a.2 110 j).toNatClampNeg) = 0) then a.2 else (if ((a.2 118 j) = 0) then (z_up a.2 119 j 1) else a.2))) else a.2))
set_option maxRecDepth 100000 in
theorem l264_18 {L : Nat} (x1 : Int32) (i0 n : Nat) (a : Int32 × zS) (hn : i0 + n < 2147483648) (hc0 : ∀ j, j < n → ¬ (((zfold (k264_18 x1 ) i0 j a).2 13 45) ≤ (Int32.ofNat (i0 + j)))) (hc1 : ∀ j, j < n → ¬ ((zfold (k264_18 x1 ) i0 j a).1 ≤ 0)) (g0 : ∀ j, j < n → (¬ (((zfold (k264_18 x1 ) i0 j a).2 13 45) ≤ (Int32.ofNat (i0 + j)))) → (¬ ((zfold (k264_18 x1 ) i0 j a).1 ≤ 0)) → zx 40 (Int32.ofNat (i0 + j))) (g1 : ∀ j, j < n → (¬ (((zfold (k264_18 x1 ) i0 j a).2 13 45) ≤ (Int32.ofNat (i0 + j)))) → (¬ ((zfold (k264_18 x1 ) i0 j a).1 ≤ 0)) → (((zfold (k264_18 x1 ) i0 j a).2 119 (i0 + j)) = 0) → (¬ (((zfold (k264_18 x1 ) i0 j a).2 110 (i0 + j)) = (-1))) → zx 40 ((zfold (k264_18 x1 ) i0 j a).2 110 (i0 + j))) : zt L 264 18 [some (.inr (.inr 13)), some (.inl x1), some (.inl a.1), some (.inl (Int32.ofNat i0))] [] a.2 (.inl (18, [some (.inr (.inr 13)), some (.inl x1), some (.inl (zfold (k264_18 x1 ) i0 n a).1), some (.inl (Int32.ofNat (i0 + n)))], [], (zfold (k264_18 x1 ) i0 n a).2)) := by
  induction n with
  | zero => exact zt_rfl
  | succ n ih =>
    have e1 := zk_ix (i0 + n) (by omega)
    have e2 := zk_add (i0 + n)
    refine zt_trans (ih (by omega) (fun j hj => hc0 j (by omega)) (fun j hj => hc1 j (by omega)) (fun j hj => g0 j (by omega)) (fun j hj => g1 j (by omega))) ?_
    refine zt_cast (s264_18 x1 (zfold (k264_18 x1 ) i0 n a).1 (Int32.ofNat (i0 + n)) (zfold (k264_18 x1 ) i0 n a).2 (by have hg := g0 n (by omega); first | exact hg | (simp only [e1]; exact hg)) (by have hg := g1 n (by omega); first | exact hg | (simp only [e1]; exact hg))) ?_
    rw [if_neg (show ¬ (((zfold (k264_18 x1 ) i0 n a).2 13 45) ≤ (Int32.ofNat (i0 + n))) from (by have hg := hc0 n (by omega); first | exact hg | (simp only [e1]; exact hg)))]
    rw [if_neg (show ¬ ((zfold (k264_18 x1 ) i0 n a).1 ≤ 0) from (by have hg := hc1 n (by omega); first | exact hg | (simp only [e1]; exact hg)))]
    simp only [zfold, k264_18, e1, e2, ← Nat.add_assoc]
def K264_18 (x1 x2 : Int32) (i0 : Nat) (S : zS) : Int32 × zS := zfold (k264_18 x1 ) i0 (if x2 ≤ 0 then 0 else (S 13 45).toNatClampNeg - i0) (x2, S)
def K264_18_c2 (x1 x2 : Int32) (i0 : Nat) (S : zS) : Int32 := (K264_18 x1 x2 i0 S).1
def K264_18_S (x1 x2 : Int32) (i0 : Nat) (S : zS) : zS := (K264_18 x1 x2 i0 S).2
set_option maxRecDepth 100000 in
theorem L264_18 {L : Nat} (x1 x2 : Int32) (i0 : Nat) (S : zS) (hi : i0 ≤ 10000) (h0 : zn 40 (S 13 45)) (hP1 : zPa 40 40 (S 110)) (hx1 : zn 1 x2) : zt L 264 18 [some (.inr (.inr 13)), some (.inl x1), some (.inl x2), some (.inl (Int32.ofNat i0))] [] S (.inl (56, [some (.inr (.inr 13)), some (.inl x1), some (.inl (K264_18_c2 x1 x2 i0 S)), some (.inl (Int32.ofNat (i0 + (if x2 ≤ 0 then 0 else (S 13 45).toNatClampNeg - i0))))], [], (K264_18_S x1 x2 i0 S))) := by
  have hk110 : ∀ n, (zfold (k264_18 x1 ) i0 n (x2, S)).2 110 = S 110 := fun n => zfold_keep (f := (k264_18 x1 )) (fun (b : Int32 × zS) => b.2 110) (fun j b => by unfold k264_18; exact (show (if ((b.2 119 j) = 0) then (if ((b.2 110 j) = (-1)) then b.2 else (if ((b.2 119 (b.2 110 j).toNatClampNeg) = 0) then b.2 else (if ((b.2 118 j) = 0) then (z_up b.2 119 j 1) else b.2))) else b.2) 110 = b.2 110 from (zite_k (zite_k rfl (zite_k rfl (zite_k (zupc rfl) rfl))) rfl))) n (x2, S)
  have hk13_45 : ∀ n, (zfold (k264_18 x1 ) i0 n (x2, S)).2 13 45 = S 13 45 := fun n => zfold_keep (f := (k264_18 x1 )) (fun (b : Int32 × zS) => b.2 13 45) (fun j b => by unfold k264_18; exact (show (if ((b.2 119 j) = 0) then (if ((b.2 110 j) = (-1)) then b.2 else (if ((b.2 119 (b.2 110 j).toNatClampNeg) = 0) then b.2 else (if ((b.2 118 j) = 0) then (z_up b.2 119 j 1) else b.2))) else b.2) 13 45 = b.2 13 45 from (zite_rd (zite_rd rfl (zite_rd rfl (zite_rd (zupci rfl) rfl))) rfl))) n (x2, S)
  by_cases hx : x2 ≤ 0
  · simp only [K264_18_S, K264_18_c2, K264_18, if_pos hx]
    exact zt_cast (s264_18 x1 x2 (Int32.ofNat i0) S (fun _ h9 => absurd hx h9) (fun _ h9 => absurd hx h9)) (zte_2 (Or.inr hx))
  · simp only [K264_18_S, K264_18_c2, K264_18, if_neg hx]
    have hacc : ∀ n, n ≤ (S 13 45).toNatClampNeg - i0 → zn (1 + n) (zfold (k264_18 x1 ) i0 n (x2, S)).1 ∧ ¬ (zfold (k264_18 x1 ) i0 n (x2, S)).1 ≤ 0 := by
      intro n
      induction n with
      | zero => intro _; exact ⟨hx1, hx⟩
      | succ n ih =>
        intro hn
        obtain ⟨h, h9⟩ := ih (by omega)
        have := zn_cl h0
        simp only [zfold, k264_18]
        (repeat' split) <;> first | exact ⟨zn_up (n := 1 + n) h, h9⟩ | exact ⟨zn_succ (n := 1 + n) h (by omega), zn_pos h (by omega)⟩
    refine zt_trans (l264_18 x1 i0 ((S 13 45).toNatClampNeg - i0) (x2, S) (by have := zn_cl h0; omega) (fun j hj => by rw [hk13_45 j]; exact zc_le h0 hj (by omega)) (fun j hj => (hacc j (by omega)).2) (fun j hj _ _ => by exact zx_of (by have := zn_cl h0; omega) (by have := zn_cl h0; omega)) (fun j hj _ _ _ hX => by rw [hk110 j] at hX; rw [hk110 j]; have := zn_cl h0; exact (hP1 _ (by omega)).resolve_left hX)) ?_
    have hend : (zfold (k264_18 x1 ) i0 ((S 13 45).toNatClampNeg - i0) (x2, S)).2 13 45 ≤ Int32.ofNat (i0 + ((S 13 45).toNatClampNeg - i0)) := by rw [hk13_45]; exact zc_le_end h0 (by omega)
    exact zt_cast (s264_18 x1 _ _ _ (fun h9 => absurd hend h9) (fun h9 => absurd hend h9)) (zte_2 (Or.inl hend))
set_option maxRecDepth 100000 in
theorem w_K264_18_S_13_57 (x1 x2 : Int32) (i0 : Nat) (S : zS) : K264_18_S x1 x2 i0 S 13 57 = S 13 57 := zfold_keep (f := (k264_18 x1 )) (fun (b : Int32 × zS) => b.2 13 57) ((fun j b => by unfold k264_18; exact (show (if ((b.2 119 j) = 0) then (if ((b.2 110 j) = (-1)) then b.2 else (if ((b.2 119 (b.2 110 j).toNatClampNeg) = 0) then b.2 else (if ((b.2 118 j) = 0) then (z_up b.2 119 j 1) else b.2))) else b.2) 13 57 = b.2 13 57 from (zite_rd (zite_rd rfl (zite_rd rfl (zite_rd (zupci rfl) rfl))) rfl)))) _ _
set_option maxRecDepth 100000 in
theorem w_K264_18_S_120 (x1 x2 : Int32) (i0 : Nat) (S : zS) : K264_18_S x1 x2 i0 S 120 = S 120 := zfold_keep (f := (k264_18 x1 )) (fun (b : Int32 × zS) => b.2 120) ((fun j b => by unfold k264_18; exact (show (if ((b.2 119 j) = 0) then (if ((b.2 110 j) = (-1)) then b.2 else (if ((b.2 119 (b.2 110 j).toNatClampNeg) = 0) then b.2 else (if ((b.2 118 j) = 0) then (z_up b.2 119 j 1) else b.2))) else b.2) 120 = b.2 120 from (zite_k (zite_k rfl (zite_k rfl (zite_k (zupc rfl) rfl))) rfl)))) _ _
set_option maxRecDepth 100000 in
theorem w_K264_18_S_122 (x1 x2 : Int32) (i0 : Nat) (S : zS) : K264_18_S x1 x2 i0 S 122 = S 122 := zfold_keep (f := (k264_18 x1 )) (fun (b : Int32 × zS) => b.2 122) ((fun j b => by unfold k264_18; exact (show (if ((b.2 119 j) = 0) then (if ((b.2 110 j) = (-1)) then b.2 else (if ((b.2 119 (b.2 110 j).toNatClampNeg) = 0) then b.2 else (if ((b.2 118 j) = 0) then (z_up b.2 119 j 1) else b.2))) else b.2) 122 = b.2 122 from (zite_k (zite_k rfl (zite_k rfl (zite_k (zupc rfl) rfl))) rfl)))) _ _
def G264 (a : Int32) (S : zS) : zS := (K264_58_S a (K264_18_c2 a (zb ((S 119 a.toNatClampNeg) = 0)) (a + 1).toNatClampNeg (z_up S 119 a.toNatClampNeg 1)) 0 (K264_18_S a (zb ((S 119 a.toNatClampNeg) = 0)) (a + 1).toNatClampNeg (z_up S 119 a.toNatClampNeg 1)))
set_option maxRecDepth 100000 in
theorem f264 {L : Nat} (a : Int32) (S : zS) (g0 : zx 40 a) (g1 : zn 40 (S 13 45)) (g2 : zPa 40 40 (S 110)) (g3 : zn 10000 (a + 1)) (g4 : zn 40 (S 13 57)) (g5 : zA 40 40 (S 120)) (g6 : zA 40 3 (S 122)) : zf L 264 [.inr (.inr 13), .inl a] S (.inl (some (.inl (K264_18_c2 a (zb ((S 119 a.toNatClampNeg) = 0)) (a + 1).toNatClampNeg (z_up S 119 a.toNatClampNeg 1)))), (G264 a S), 0) := zf_of (en_264 _ _) (zr_2_0 i264_0 (zr_6r i264_1 fl_13_56 (zr_1_1 i264_2 (zr_9 i264_3 ar_119 (g0) rfl rfl (zt_trans (zt_cast (zr_18_0 i264_4 (fun h2736 => zr_0 i264_7 kc_1 (zt_rfl)) (fun h2737 => zr_0 i264_5 kc_0 (zr_17 i264_6 (zt_rfl)))) (zm_c zz_s (zl_c (zl_t zz_10) zz_s) zz_s)) (zr_3_2 i264_8 (zr_2_0 i264_9 (zr_6r i264_10 fl_13_56 (zr_1_1 i264_11 (zr_0 i264_12 kc_1 (zr_11 i264_13 ar_119 (g0) (zo_1) rfl (zr_1_1 i264_14 (zr_0 i264_15 kc_1 (zr_13_0 i264_16 (zr_3_3 i264_17 (zt_trans (zk_cg (P := fun v9 => zt L 264 18 [some (.inr (.inr 13)), some (.inl a), some (.inl (zb ((S 119 a.toNatClampNeg) = 0))), some (.inl v9)] [] (z_up S 119 a.toNatClampNeg 1) (.inl (56, [some (.inr (.inr 13)), some (.inl a), some (.inl (K264_18_c2 a (zb ((S 119 a.toNatClampNeg) = 0)) (a + 1).toNatClampNeg (z_up S 119 a.toNatClampNeg 1))), some (.inl (Int32.ofNat ((a + 1).toNatClampNeg + (if (zb ((S 119 a.toNatClampNeg) = 0)) ≤ 0 then 0 else ((z_up S 119 a.toNatClampNeg 1) 13 45).toNatClampNeg - (a + 1).toNatClampNeg))))], [], (K264_18_S a (zb ((S 119 a.toNatClampNeg) = 0)) (a + 1).toNatClampNeg (z_up S 119 a.toNatClampNeg 1))))) ((g3)).1 (L264_18 a (zb ((S 119 a.toNatClampNeg) = 0)) (a + 1).toNatClampNeg (z_up S 119 a.toNatClampNeg 1) (zn_cl (g3)) (znv (zupci rfl) (g1)) (zpc1 (zupc rfl) (g2)) (zn_zb _))) (zr_0 i264_56 kc_0 (zr_3_3 i264_57 (zt_trans (L264_58 a (K264_18_c2 a (zb ((S 119 a.toNatClampNeg) = 0)) (a + 1).toNatClampNeg (z_up S 119 a.toNatClampNeg 1)) 0 (K264_18_S a (zb ((S 119 a.toNatClampNeg) = 0)) (a + 1).toNatClampNeg (z_up S 119 a.toNatClampNeg 1)) (by decide) (znv ((w_K264_18_S_13_57 _ _ _ _).trans (zupci rfl)) (g4)) (zpc1 ((w_K264_18_S_120 _ _ _ _).trans (zupc rfl)) (g5)) (zpc1 ((w_K264_18_S_122 _ _ _ _).trans (zupc rfl)) (g6))) (zr_1_2 i264_82 (zr_25 i264_83)))))))))))))))))))))
