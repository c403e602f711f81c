/-! the methods with loops, and what calls them (wip/whole/gen/gen18.py) -/
theorem i184_0 : zi 184 0 1 1 1 0 := by decide +kernel
theorem i184_1 : zi 184 1 2 0 0 1 := by decide +kernel
theorem i184_2 : zi 184 2 3 0 0 50 := by decide +kernel
theorem i184_3 : zi 184 3 4 22 188 0 := by decide +kernel
theorem i184_4 : zi 184 4 5 22 186 0 := by decide +kernel
theorem i184_5 : zi 184 5 6 0 0 0 := by decide +kernel
theorem i184_6 : zi 184 6 7 3 2 0 := by decide +kernel
theorem th_184 : (z_th 184).isEmpty = true := by decide +kernel
theorem i184_7 : zi 184 7 8 1 2 0 := by decide +kernel
theorem i184_8 : zi 184 8 9 1 1 0 := by decide +kernel
theorem i184_9 : zi 184 9 10 19 14 3 := by decide +kernel
theorem i184_10 : zi 184 10 11 2 0 0 := by decide +kernel
theorem i184_11 : zi 184 11 12 21 210 11 := by decide +kernel
theorem na_210 : z_na 210 = 0 := by decide +kernel
theorem i184_12 : zi 184 12 13 5 2 1 := by decide +kernel
theorem i184_13 : zi 184 13 14 17 7 0 := by decide +kernel
theorem i184_14 : zi 184 14 15 2 0 0 := by decide +kernel
theorem i184_15 : zi 184 15 16 6 11 11 := by decide +kernel
theorem i184_16 : zi 184 16 17 25 0 0 := by decide +kernel
theorem ml_184 : z_ml 184 = 3 := by decide +kernel
theorem en_184 : ∀ (v0 v1 : zV), z_ent 184 [v0, v1] = [some v0, some v1, none] := fun v0 v1 => by unfold z_ent; rw [ml_184]; rfl
theorem i214_0 : zi 214 0 1 0 0 0 := by decide +kernel
theorem i214_1 : zi 214 1 2 3 1 0 := by decide +kernel
theorem i214_2 : zi 214 2 3 1 1 0 := by decide +kernel
theorem i214_3 : zi 214 3 4 0 0 7 := by decide +kernel
theorem i214_4 : zi 214 4 5 19 17 3 := by decide +kernel
theorem i214_5 : zi 214 5 6 2 0 0 := by decide +kernel
theorem i214_6 : zi 214 6 7 6 12 7 := by decide +kernel
theorem fl_13_7 : zfl 13 12 7 7 (some 82) := by decide +kernel
theorem i214_7 : zi 214 7 8 1 1 0 := by decide +kernel
theorem i214_8 : zi 214 8 9 0 0 (-1) := by decide +kernel
theorem i214_9 : zi 214 9 10 10 0 0 := by decide +kernel
theorem ar_82 : zar 82 0 7 := by decide +kernel
theorem i214_10 : zi 214 10 11 2 0 0 := by decide +kernel
theorem i214_11 : zi 214 11 12 6 12 8 := by decide +kernel
theorem fl_13_8 : zfl 13 12 8 8 (some 83) := by decide +kernel
theorem i214_12 : zi 214 12 13 1 1 0 := by decide +kernel
theorem i214_13 : zi 214 13 14 0 0 (-1) := by decide +kernel
theorem i214_14 : zi 214 14 15 10 0 0 := by decide +kernel
theorem ar_83 : zar 83 0 7 := by decide +kernel
theorem i214_15 : zi 214 15 16 5 1 1 := by decide +kernel
theorem i214_16 : zi 214 16 17 17 2 0 := by decide +kernel
theorem i214_17 : zi 214 17 18 27 0 0 := by decide +kernel
theorem ml_214 : z_ml 214 = 2 := by decide +kernel
theorem en_214 : ∀ (v0 : zV), z_ent 214 [v0] = [some v0, none] := fun v0 => by unfold z_ent; rw [ml_214]; rfl
theorem i216_0 : zi 216 0 1 1 1 0 := by decide +kernel
theorem i216_1 : zi 216 1 2 3 4 0 := by decide +kernel
theorem i216_2 : zi 216 2 3 2 0 0 := by decide +kernel
theorem i216_3 : zi 216 3 4 6 12 3 := by decide +kernel
theorem fl_13_3 : zfl 13 12 3 3 none := by decide +kernel
theorem i216_4 : zi 216 4 5 0 0 (-1) := by decide +kernel
theorem i216_5 : zi 216 5 6 19 14 1 := by decide +kernel
theorem i216_6 : zi 216 6 7 1 4 0 := by decide +kernel
theorem i216_7 : zi 216 7 8 22 215 0 := by decide +kernel
theorem na_215 : z_na 215 = 1 := by decide +kernel
theorem i216_8 : zi 216 8 9 3 4 0 := by decide +kernel
theorem i216_9 : zi 216 9 10 2 0 0 := by decide +kernel
theorem i216_10 : zi 216 10 11 1 4 0 := by decide +kernel
theorem i216_11 : zi 216 11 12 0 0 257 := by decide +kernel
theorem i216_12 : zi 216 12 13 13 4 0 := by decide +kernel
theorem i216_13 : zi 216 13 14 7 12 3 := by decide +kernel
theorem i216_14 : zi 216 14 15 2 0 0 := by decide +kernel
theorem i216_15 : zi 216 15 16 1 2 0 := by decide +kernel
theorem i216_16 : zi 216 16 17 7 12 4 := by decide +kernel
theorem i216_17 : zi 216 17 18 2 0 0 := by decide +kernel
theorem i216_18 : zi 216 18 19 1 3 0 := by decide +kernel
theorem i216_19 : zi 216 19 20 7 12 5 := by decide +kernel
theorem fl_13_5 : zfl 13 12 5 5 none := by decide +kernel
theorem i216_20 : zi 216 20 21 0 0 1 := by decide +kernel
theorem i216_21 : zi 216 21 22 3 5 0 := by decide +kernel
theorem i216_22 : zi 216 22 23 1 5 0 := by decide +kernel
theorem i216_23 : zi 216 23 24 1 2 0 := by decide +kernel
theorem i216_24 : zi 216 24 25 19 33 4 := by decide +kernel
theorem i216_25 : zi 216 25 26 2 0 0 := by decide +kernel
theorem i216_26 : zi 216 26 27 6 12 6 := by decide +kernel
theorem i216_27 : zi 216 27 28 1 5 0 := by decide +kernel
theorem i216_28 : zi 216 28 29 2 0 0 := by decide +kernel
theorem i216_29 : zi 216 29 30 6 12 3 := by decide +kernel
theorem i216_30 : zi 216 30 31 10 0 0 := by decide +kernel
theorem i216_31 : zi 216 31 32 5 5 1 := by decide +kernel
theorem i216_32 : zi 216 32 33 17 22 0 := by decide +kernel
theorem i216_33 : zi 216 33 34 0 0 1 := by decide +kernel
theorem i216_34 : zi 216 34 35 3 5 0 := by decide +kernel
theorem i216_35 : zi 216 35 36 1 5 0 := by decide +kernel
theorem i216_36 : zi 216 36 37 1 3 0 := by decide +kernel
theorem i216_37 : zi 216 37 38 19 79 3 := by decide +kernel
theorem i216_38 : zi 216 38 39 1 4 0 := by decide +kernel
theorem i216_39 : zi 216 39 40 22 215 0 := by decide +kernel
theorem i216_40 : zi 216 40 41 3 4 0 := by decide +kernel
theorem i216_41 : zi 216 41 42 0 0 1 := by decide +kernel
theorem i216_42 : zi 216 42 43 3 6 0 := by decide +kernel
theorem i216_79 : zi 216 79 80 27 0 0 := by decide +kernel
theorem i216_43 : zi 216 43 44 1 6 0 := by decide +kernel
theorem i216_44 : zi 216 44 45 1 2 0 := by decide +kernel
theorem i216_45 : zi 216 45 46 19 77 4 := by decide +kernel
theorem i216_46 : zi 216 46 47 1 4 0 := by decide +kernel
theorem i216_47 : zi 216 47 48 0 0 257 := by decide +kernel
theorem i216_48 : zi 216 48 49 13 4 0 := by decide +kernel
theorem i216_49 : zi 216 49 50 3 7 0 := by decide +kernel
theorem i216_50 : zi 216 50 51 0 0 0 := by decide +kernel
theorem i216_51 : zi 216 51 52 3 8 0 := by decide +kernel
theorem i216_77 : zi 216 77 78 5 5 1 := by decide +kernel
theorem i216_78 : zi 216 78 79 17 35 0 := by decide +kernel
theorem i216_52 : zi 216 52 53 1 8 0 := by decide +kernel
theorem i216_53 : zi 216 53 54 1 5 0 := by decide +kernel
theorem i216_54 : zi 216 54 55 19 63 3 := by decide +kernel
theorem i216_55 : zi 216 55 56 1 7 0 := by decide +kernel
theorem i216_56 : zi 216 56 57 1 6 0 := by decide +kernel
theorem i216_57 : zi 216 57 58 13 2 0 := by decide +kernel
theorem i216_58 : zi 216 58 59 0 0 257 := by decide +kernel
theorem i216_59 : zi 216 59 60 13 4 0 := by decide +kernel
theorem i216_60 : zi 216 60 61 3 7 0 := by decide +kernel
theorem i216_61 : zi 216 61 62 5 8 1 := by decide +kernel
theorem i216_62 : zi 216 62 63 17 52 0 := by decide +kernel
theorem i216_63 : zi 216 63 64 2 0 0 := by decide +kernel
theorem i216_64 : zi 216 64 65 6 12 6 := by decide +kernel
theorem i216_65 : zi 216 65 66 1 6 0 := by decide +kernel
theorem i216_66 : zi 216 66 67 2 0 0 := by decide +kernel
theorem i216_67 : zi 216 67 68 6 12 6 := by decide +kernel
theorem i216_68 : zi 216 68 69 1 6 0 := by decide +kernel
theorem i216_69 : zi 216 69 70 8 0 0 := by decide +kernel
theorem i216_70 : zi 216 70 71 1 7 0 := by decide +kernel
theorem i216_71 : zi 216 71 72 13 0 0 := by decide +kernel
theorem i216_72 : zi 216 72 73 0 0 257 := by decide +kernel
theorem i216_73 : zi 216 73 74 13 4 0 := by decide +kernel
theorem i216_74 : zi 216 74 75 10 0 0 := by decide +kernel
theorem i216_75 : zi 216 75 76 5 6 1 := by decide +kernel
theorem i216_76 : zi 216 76 77 17 43 0 := by decide +kernel
theorem ml_216 : z_ml 216 = 9 := by decide +kernel
theorem en_216 : ∀ (v0 v1 v2 v3 : zV), z_ent 216 [v0, v1, v2, v3] = [some v0, some v1, some v2, some v3, none, none, none, none, none] := fun v0 v1 v2 v3 => by unfold z_ent; rw [ml_216]; rfl
theorem i218_0 : zi 218 0 1 2 0 0 := by decide +kernel
theorem i218_1 : zi 218 1 2 1 1 0 := by decide +kernel
theorem i218_2 : zi 218 2 3 1 2 0 := by decide +kernel
theorem i218_3 : zi 218 3 4 1 3 0 := by decide +kernel
theorem i218_4 : zi 218 4 5 22 217 0 := by decide +kernel
theorem na_217 : z_na 217 = 3 := by decide +kernel
theorem i218_5 : zi 218 5 6 18 8 1 := by decide +kernel
theorem i218_8 : zi 218 8 9 2 0 0 := by decide +kernel
theorem i218_9 : zi 218 9 10 6 12 4 := by decide +kernel
theorem i218_10 : zi 218 10 11 18 13 5 := by decide +kernel
theorem i218_13 : zi 218 13 14 0 0 0 := by decide +kernel
theorem i218_11 : zi 218 11 12 0 0 2 := by decide +kernel
theorem i218_12 : zi 218 12 13 17 14 0 := by decide +kernel
theorem i218_6 : zi 218 6 7 0 0 1 := by decide +kernel
theorem i218_7 : zi 218 7 8 17 14 0 := by decide +kernel
theorem i218_14 : zi 218 14 15 21 212 12 := by decide +kernel
theorem i218_15 : zi 218 15 16 18 21 0 := by decide +kernel
theorem i218_16 : zi 218 16 17 2 0 0 := by decide +kernel
theorem i218_17 : zi 218 17 18 1 1 0 := by decide +kernel
theorem i218_18 : zi 218 18 19 1 2 0 := by decide +kernel
theorem i218_19 : zi 218 19 20 1 3 0 := by decide +kernel
theorem i218_20 : zi 218 20 21 21 216 12 := by decide +kernel
theorem na_216 : z_na 216 = 3 := by decide +kernel
theorem i218_21 : zi 218 21 22 27 0 0 := by decide +kernel
theorem ml_218 : z_ml 218 = 4 := by decide +kernel
theorem en_218 : ∀ (v0 v1 v2 v3 : zV), z_ent 218 [v0, v1, v2, v3] = [some v0, some v1, some v2, some v3] := fun v0 v1 v2 v3 => by unfold z_ent; rw [ml_218]; rfl
theorem i220_0 : zi 220 0 1 0 0 0 := by decide +kernel
theorem i220_1 : zi 220 1 2 3 1 0 := by decide +kernel
theorem i220_2 : zi 220 2 3 0 0 1 := by decide +kernel
theorem i220_3 : zi 220 3 4 3 2 0 := by decide +kernel
theorem i220_4 : zi 220 4 5 1 2 0 := by decide +kernel
theorem i220_5 : zi 220 5 6 0 0 7 := by decide +kernel
theorem i220_6 : zi 220 6 7 19 20 3 := by decide +kernel
theorem i220_7 : zi 220 7 8 1 1 0 := by decide +kernel
theorem i220_8 : zi 220 8 9 2 0 0 := by decide +kernel
theorem i220_9 : zi 220 9 10 1 2 0 := by decide +kernel
theorem i220_10 : zi 220 10 11 8 0 0 := by decide +kernel
theorem i220_11 : zi 220 11 12 0 0 (-1) := by decide +kernel
theorem i220_12 : zi 220 12 13 19 15 1 := by decide +kernel
theorem i220_13 : zi 220 13 14 0 0 0 := by decide +kernel
theorem i220_14 : zi 220 14 15 17 16 0 := by decide +kernel
theorem i220_15 : zi 220 15 16 0 0 1 := by decide +kernel
theorem i220_16 : zi 220 16 17 13 0 0 := by decide +kernel
theorem i220_17 : zi 220 17 18 3 1 0 := by decide +kernel
theorem i220_18 : zi 220 18 19 5 2 1 := by decide +kernel
theorem i220_19 : zi 220 19 20 17 4 0 := by decide +kernel
theorem i220_20 : zi 220 20 21 1 1 0 := by decide +kernel
theorem i220_21 : zi 220 21 22 25 0 0 := by decide +kernel
theorem ml_220 : z_ml 220 = 3 := by decide +kernel
theorem en_220 : ∀ (v0 : zV), z_ent 220 [v0] = [some v0, none, none] := fun v0 => by unfold z_ent; rw [ml_220]; rfl
theorem i221_0 : zi 221 0 1 0 0 1 := by decide +kernel
theorem i221_1 : zi 221 1 2 3 1 0 := by decide +kernel
theorem i221_2 : zi 221 2 3 1 1 0 := by decide +kernel
theorem i221_3 : zi 221 3 4 1 0 0 := by decide +kernel
theorem i221_4 : zi 221 4 5 13 2 0 := by decide +kernel
theorem i221_5 : zi 221 5 6 0 0 257 := by decide +kernel
theorem i221_6 : zi 221 6 7 13 4 0 := by decide +kernel
theorem i221_7 : zi 221 7 8 0 0 1 := by decide +kernel
theorem i221_8 : zi 221 8 9 19 11 0 := by decide +kernel
theorem i221_9 : zi 221 9 10 5 1 1 := by decide +kernel
theorem i221_10 : zi 221 10 11 17 2 0 := by decide +kernel
theorem i221_11 : zi 221 11 12 1 1 0 := by decide +kernel
theorem i221_12 : zi 221 12 13 25 0 0 := by decide +kernel
theorem ml_221 : z_ml 221 = 2 := by decide +kernel
theorem en_221 : ∀ (v0 : zV), z_ent 221 [v0] = [some v0, none] := fun v0 => by unfold z_ent; rw [ml_221]; rfl
set_option maxRecDepth 100000 in
theorem s184_7 {L : Nat} (x1 x2 : Int32) (S : zS) (g0 : zn 40 (S 5 0)) (g1 : zn 40 (S 6 0)) (g2 : zA 40 40 (S 41)) (g3 : zA 40 3 (S 43)) : zt L 184 7 [some (.inr (.inr 0)), some (.inl x1), some (.inl x2)] [] S (if (x1 ≤ x2) then (.inl (14, [some (.inr (.inr 0)), some (.inl x1), some (.inl x2)], [], S)) else (.inl (7, [some (.inr (.inr 0)), some (.inl x1), some (.inl (x2 + 1))], [], (G210 S)))) := zr_1_2 i184_7 (zr_1_1 i184_8 (zr_19_3 i184_9 (fun h1928 => zt_rfl) (fun h1929 => zr_2_0 i184_10 (zr_cn (zs_21_0 i184_11 na_210 ob_0 rfl) (f210  S (g0) (g1) (g2) (g3)) (zr_5_2 i184_12 kc_1 (zr_17 i184_13 (zt_rfl)))))))
def k184_7 (x1 : Int32) (j : Nat) (a : zS) : zS := (G210 a)
set_option maxRecDepth 100000 in
theorem l184_7 {L : Nat} (x1 : Int32) (i0 n : Nat) (a : zS) (hn : i0 + n < 2147483648) (hc0 : ∀ j, j < n → ¬ (x1 ≤ (Int32.ofNat (i0 + j)))) (g0 : ∀ j, j < n → zn 40 ((zfold (k184_7 x1 ) i0 j a) 5 0)) (g1 : ∀ j, j < n → zn 40 ((zfold (k184_7 x1 ) i0 j a) 6 0)) (g2 : ∀ j, j < n → zA 40 40 ((zfold (k184_7 x1 ) i0 j a) 41)) (g3 : ∀ j, j < n → zA 40 3 ((zfold (k184_7 x1 ) i0 j a) 43)) : zt L 184 7 [some (.inr (.inr 0)), some (.inl x1), some (.inl (Int32.ofNat i0))] [] a (.inl (7, [some (.inr (.inr 0)), some (.inl x1), some (.inl (Int32.ofNat (i0 + n)))], [], (zfold (k184_7 x1 ) i0 n a))) := by
  induction n with
  | zero => exact zt_rfl
  | succ n ih =>
    have e1 := zk_ix (i0 + n) (by omega)
    have e2 := zk_add (i0 + n)
    refine zt_trans (ih (by omega) (fun j hj => hc0 j (by omega)) (fun j hj => g0 j (by omega)) (fun j hj => g1 j (by omega)) (fun j hj => g2 j (by omega)) (fun j hj => g3 j (by omega))) ?_
    refine zt_cast (s184_7 x1 (Int32.ofNat (i0 + n)) (zfold (k184_7 x1 ) i0 n a) (by have hg := g0 n (by omega); first | exact hg | (simp only [e1]; exact hg)) (by have hg := g1 n (by omega); first | exact hg | (simp only [e1]; exact hg)) (by have hg := g2 n (by omega); first | exact hg | (simp only [e1]; exact hg)) (by have hg := g3 n (by omega); first | exact hg | (simp only [e1]; exact hg))) ?_
    rw [if_neg (show ¬ (x1 ≤ (Int32.ofNat (i0 + n))) from (by have hg := hc0 n (by omega); first | exact hg | (simp only [e1]; exact hg)))]
    simp only [zfold, k184_7, e1, e2, ← Nat.add_assoc]
set_option maxRecDepth 100000 in
theorem w_K57_2_S_41 (i0 : Nat) (S : zS) : K57_2_S  i0 S 41 = S 41 := zfold_keep (f := (k57_2 )) (fun (b : zS) => b 41) ((fun j b => by unfold k57_2; exact (show (if ((b 48 j) = 0) then (z_up (z_up b 49 j ((b 49 j) - (b 50 j))) 50 j 0) else b) 41 = b 41 from (zite_k ((zupc rfl).trans (zupc rfl)) rfl)))) _ _
set_option maxRecDepth 100000 in
theorem w_K56_2_S_41 (x1 : Int32) (i0 : Nat) (S : zS) : K56_2_S x1 i0 S 41 = S 41 := zfold_keep (f := (k56_2 x1 )) (fun (b : zS) => b 41) ((fun j b => by unfold k56_2; exact (show (if ((b 46 j) = 1) then (if (x1 ≤ (b 44 j)) then b else (G60 (Int32.ofNat j) b)) else b) 41 = b 41 from (zite_k (zite_k rfl (w_G60_41 _ _)) rfl)))) _ _
set_option maxRecDepth 100000 in
theorem w_K55_2_S_41 (x1 : Int32) (i0 : Nat) (S : zS) : K55_2_S x1 i0 S 41 = S 41 := zfold_keep (f := (k55_2 x1 )) (fun (b : zS) => b 41) ((fun j b => by unfold k55_2; exact (show (if ((b 46 j) = 0) then (if ((b 44 j) = x1) then (G60 (Int32.ofNat j) (z_up b 44 j x1)) else b) else b) 41 = b 41 from (zite_k (zite_k ((w_G60_41 _ _).trans (zupc rfl)) rfl) rfl)))) _ _
set_option maxRecDepth 100000 in
theorem w_K210_11_S_41 (i0 : Nat) (S : zS) : K210_11_S  i0 S 41 = S 41 := zfold_keep (f := (k210_11 )) (fun (b : zS) => b 41) ((fun j b => by unfold k210_11; exact (show (if ((b 40 j) = 0) then (if ((b 34 j) = (b 0 11)) then (G200 (Int32.ofNat j) b) else b) else b) 41 = b 41 from (zite_k (zite_k (w_G200_41 _ _) rfl) rfl)))) _ _
set_option maxRecDepth 100000 in
theorem w_G210_41 (S : zS) : G210 S 41 = S 41 := (show (K57_2_S 0 (K56_2_S ((K55_2_S ((K210_11_S 0 (K13_2_S 0 (z_up S 0 11 ((S 0 11) + 1)))) 0 11) 0 (K210_11_S 0 (K13_2_S 0 (z_up S 0 11 ((S 0 11) + 1))))) 0 11) 0 (K55_2_S ((K210_11_S 0 (K13_2_S 0 (z_up S 0 11 ((S 0 11) + 1)))) 0 11) 0 (K210_11_S 0 (K13_2_S 0 (z_up S 0 11 ((S 0 11) + 1))))))) 41 = S 41 from ((w_K57_2_S_41 _ _).trans ((w_K56_2_S_41 _ _ _).trans ((w_K55_2_S_41 _ _ _).trans ((w_K210_11_S_41 _ _).trans ((w_K13_2_S_41 _ _).trans (zupc rfl)))))))
set_option maxRecDepth 100000 in
theorem w_K57_2_S_43 (i0 : Nat) (S : zS) : K57_2_S  i0 S 43 = S 43 := zfold_keep (f := (k57_2 )) (fun (b : zS) => b 43) ((fun j b => by unfold k57_2; exact (show (if ((b 48 j) = 0) then (z_up (z_up b 49 j ((b 49 j) - (b 50 j))) 50 j 0) else b) 43 = b 43 from (zite_k ((zupc rfl).trans (zupc rfl)) rfl)))) _ _
set_option maxRecDepth 100000 in
theorem w_K56_2_S_43 (x1 : Int32) (i0 : Nat) (S : zS) : K56_2_S x1 i0 S 43 = S 43 := zfold_keep (f := (k56_2 x1 )) (fun (b : zS) => b 43) ((fun j b => by unfold k56_2; exact (show (if ((b 46 j) = 1) then (if (x1 ≤ (b 44 j)) then b else (G60 (Int32.ofNat j) b)) else b) 43 = b 43 from (zite_k (zite_k rfl (w_G60_43 _ _)) rfl)))) _ _
set_option maxRecDepth 100000 in
theorem w_G210_43 (S : zS) : G210 S 43 = S 43 := (show (K57_2_S 0 (K56_2_S ((K55_2_S ((K210_11_S 0 (K13_2_S 0 (z_up S 0 11 ((S 0 11) + 1)))) 0 11) 0 (K210_11_S 0 (K13_2_S 0 (z_up S 0 11 ((S 0 11) + 1))))) 0 11) 0 (K55_2_S ((K210_11_S 0 (K13_2_S 0 (z_up S 0 11 ((S 0 11) + 1)))) 0 11) 0 (K210_11_S 0 (K13_2_S 0 (z_up S 0 11 ((S 0 11) + 1))))))) 43 = S 43 from ((w_K57_2_S_43 _ _).trans ((w_K56_2_S_43 _ _ _).trans ((w_K55_2_S_43 _ _ _).trans ((w_K210_11_S_43 _ _).trans ((w_K13_2_S_43 _ _).trans (zupc rfl)))))))
set_option maxRecDepth 100000 in
theorem w_K57_2_S_5_0 (i0 : Nat) (S : zS) : K57_2_S  i0 S 5 0 = S 5 0 := zfold_keep (f := (k57_2 )) (fun (b : zS) => b 5 0) ((fun j b => by unfold k57_2; exact (show (if ((b 48 j) = 0) then (z_up (z_up b 49 j ((b 49 j) - (b 50 j))) 50 j 0) else b) 5 0 = b 5 0 from (zite_rd ((zupci rfl).trans (zupci rfl)) rfl)))) _ _
set_option maxRecDepth 100000 in
theorem w_K56_2_S_5_0 (x1 : Int32) (i0 : Nat) (S : zS) : K56_2_S x1 i0 S 5 0 = S 5 0 := zfold_keep (f := (k56_2 x1 )) (fun (b : zS) => b 5 0) ((fun j b => by unfold k56_2; exact (show (if ((b 46 j) = 1) then (if (x1 ≤ (b 44 j)) then b else (G60 (Int32.ofNat j) b)) else b) 5 0 = b 5 0 from (zite_rd (zite_rd rfl (w_G60_5_0 _ _)) rfl)))) _ _
set_option maxRecDepth 100000 in
theorem w_K55_2_S_5_0 (x1 : Int32) (i0 : Nat) (S : zS) : K55_2_S x1 i0 S 5 0 = S 5 0 := zfold_keep (f := (k55_2 x1 )) (fun (b : zS) => b 5 0) ((fun j b => by unfold k55_2; exact (show (if ((b 46 j) = 0) then (if ((b 44 j) = x1) then (G60 (Int32.ofNat j) (z_up b 44 j x1)) else b) else b) 5 0 = b 5 0 from (zite_rd (zite_rd ((w_G60_5_0 _ _).trans (zupci rfl)) rfl) rfl)))) _ _
set_option maxRecDepth 100000 in
theorem w_K210_11_S_5_0 (i0 : Nat) (S : zS) : K210_11_S  i0 S 5 0 = S 5 0 := zfold_keep (f := (k210_11 )) (fun (b : zS) => b 5 0) ((fun j b => by unfold k210_11; exact (show (if ((b 40 j) = 0) then (if ((b 34 j) = (b 0 11)) then (G200 (Int32.ofNat j) b) else b) else b) 5 0 = b 5 0 from (zite_rd (zite_rd (w_G200_5_0 _ _) rfl) rfl)))) _ _
set_option maxRecDepth 100000 in
theorem w_G210_5_0 (S : zS) : G210 S 5 0 = S 5 0 := (show (K57_2_S 0 (K56_2_S ((K55_2_S ((K210_11_S 0 (K13_2_S 0 (z_up S 0 11 ((S 0 11) + 1)))) 0 11) 0 (K210_11_S 0 (K13_2_S 0 (z_up S 0 11 ((S 0 11) + 1))))) 0 11) 0 (K55_2_S ((K210_11_S 0 (K13_2_S 0 (z_up S 0 11 ((S 0 11) + 1)))) 0 11) 0 (K210_11_S 0 (K13_2_S 0 (z_up S 0 11 ((S 0 11) + 1))))))) 5 0 = S 5 0 from ((w_K57_2_S_5_0 _ _).trans ((w_K56_2_S_5_0 _ _ _).trans ((w_K55_2_S_5_0 _ _ _).trans ((w_K210_11_S_5_0 _ _).trans ((w_K13_2_S_5_0 _ _).trans (zupci rfl)))))))
set_option maxRecDepth 100000 in
theorem w_K57_2_S_6_0 (i0 : Nat) (S : zS) : K57_2_S  i0 S 6 0 = S 6 0 := zfold_keep (f := (k57_2 )) (fun (b : zS) => b 6 0) ((fun j b => by unfold k57_2; exact (show (if ((b 48 j) = 0) then (z_up (z_up b 49 j ((b 49 j) - (b 50 j))) 50 j 0) else b) 6 0 = b 6 0 from (zite_rd ((zupci rfl).trans (zupci rfl)) rfl)))) _ _
set_option maxRecDepth 100000 in
theorem w_K56_2_S_6_0 (x1 : Int32) (i0 : Nat) (S : zS) : K56_2_S x1 i0 S 6 0 = S 6 0 := zfold_keep (f := (k56_2 x1 )) (fun (b : zS) => b 6 0) ((fun j b => by unfold k56_2; exact (show (if ((b 46 j) = 1) then (if (x1 ≤ (b 44 j)) then b else (G60 (Int32.ofNat j) b)) else b) 6 0 = b 6 0 from (zite_rd (zite_rd rfl (w_G60_6_0 _ _)) rfl)))) _ _
set_option maxRecDepth 100000 in
theorem w_G210_6_0 (S : zS) : G210 S 6 0 = S 6 0 := (show (K57_2_S 0 (K56_2_S ((K55_2_S ((K210_11_S 0 (K13_2_S 0 (z_up S 0 11 ((S 0 11) + 1)))) 0 11) 0 (K210_11_S 0 (K13_2_S 0 (z_up S 0 11 ((S 0 11) + 1))))) 0 11) 0 (K55_2_S ((K210_11_S 0 (K13_2_S 0 (z_up S 0 11 ((S 0 11) + 1)))) 0 11) 0 (K210_11_S 0 (K13_2_S 0 (z_up S 0 11 ((S 0 11) + 1))))))) 6 0 = S 6 0 from ((w_K57_2_S_6_0 _ _).trans ((w_K56_2_S_6_0 _ _ _).trans ((w_K55_2_S_6_0 _ _ _).trans ((w_K210_11_S_6_0 _ _).trans ((w_K13_2_S_6_0 _ _).trans (zupci rfl)))))))
def K184_7 (x1 : Int32) (i0 : Nat) (S : zS) : zS := zfold (k184_7 x1 ) i0 (x1.toNatClampNeg - i0) S
def K184_7_S (x1 : Int32) (i0 : Nat) (S : zS) : zS := (K184_7 x1 i0 S)
set_option maxRecDepth 100000 in
theorem L184_7 {L : Nat} (x1 : Int32) (i0 : Nat) (S : zS) (hi : i0 ≤ 10000) (h0 : zn 600 x1) (hz1 : zn 40 (S 5 0)) (hz2 : zn 40 (S 6 0)) (hp3 : zA 40 40 (S 41)) (hp4 : zA 40 3 (S 43)) : zt L 184 7 [some (.inr (.inr 0)), some (.inl x1), some (.inl (Int32.ofNat i0))] [] S (.inl (14, [some (.inr (.inr 0)), some (.inl x1), some (.inl (Int32.ofNat (i0 + (x1.toNatClampNeg - i0))))], [], (K184_7_S x1 i0 S))) := by
  have hk41 : ∀ n, (zfold (k184_7 x1 ) i0 n S) 41 = S 41 := fun n => zfold_keep (f := (k184_7 x1 )) (fun (b : zS) => b 41) (fun j b => by unfold k184_7; exact (show (G210 b) 41 = b 41 from (w_G210_41 _))) n S
  have hk43 : ∀ n, (zfold (k184_7 x1 ) i0 n S) 43 = S 43 := fun n => zfold_keep (f := (k184_7 x1 )) (fun (b : zS) => b 43) (fun j b => by unfold k184_7; exact (show (G210 b) 43 = b 43 from (w_G210_43 _))) n S
  have hk5_0 : ∀ n, (zfold (k184_7 x1 ) i0 n S) 5 0 = S 5 0 := fun n => zfold_keep (f := (k184_7 x1 )) (fun (b : zS) => b 5 0) (fun j b => by unfold k184_7; exact (show (G210 b) 5 0 = b 5 0 from (w_G210_5_0 _))) n S
  have hk6_0 : ∀ n, (zfold (k184_7 x1 ) i0 n S) 6 0 = S 6 0 := fun n => zfold_keep (f := (k184_7 x1 )) (fun (b : zS) => b 6 0) (fun j b => by unfold k184_7; exact (show (G210 b) 6 0 = b 6 0 from (w_G210_6_0 _))) n S
  have hend : x1 ≤ Int32.ofNat (i0 + (x1.toNatClampNeg - i0)) := by exact zc_le_end h0 (by omega)
  refine zt_trans (l184_7 x1   i0 (x1.toNatClampNeg - i0) S (by have := zn_cl h0; omega) (fun j hj => by exact zc_le h0 hj (by omega)) (fun j hj  => by rw [hk5_0 j]; exact hz1) (fun j hj  => by rw [hk6_0 j]; exact hz2) (fun j hj  => by exact zpc1 (hk41 j) hp3) (fun j hj  => by exact zpc1 (hk43 j) hp4)) ?_
  exact zt_cast (s184_7 x1 (Int32.ofNat (i0 + (x1.toNatClampNeg - i0))) (zfold (k184_7 x1 ) i0 (x1.toNatClampNeg - i0) S) (by rw [hk5_0 _]; exact hz1) (by rw [hk6_0 _]; exact hz2) (by exact zpc1 (hk41 _) hp3) (by exact zpc1 (hk43 _) hp4)) (if_pos hend)
set_option maxRecDepth 100000 in
theorem f184 {L : Nat} (a : Int32) (S : zS) (g0 : ((¬ (a < 1)) ∧ (¬ (50 < a))) → zn 600 a) (g1 : zn 40 (S 5 0)) (g2 : zn 40 (S 6 0)) (g3 : zA 40 40 (S 41)) (g4 : zA 40 3 (S 43)) : zf L 184 [.inr (.inr 0), .inl a] S (if ((¬ (a < 1)) ∧ (¬ (50 < a))) then (.inl (some (.inl ((K184_7_S a 0 S) 0 11))), (K184_7_S a 0 S), 0) else (.inr 1, S, 1)) := zf_of (en_184 _ _) (zr_1_1 i184_0 (zr_0 i184_1 kc_1 (zr_0 i184_2 kc_50 (zr_cv (zs_22_3 i184_3 na_188 rfl) (f188 a 1 50 S ) (zt_cast (zr_dem (E := 1) (zs_22_1 i184_4 na_186 rfl) f186 th_184 (fun h1930 => zr_0 i184_5 kc_0 (zr_3_2 i184_6 (zt_trans (L184_7 a 0 S (by decide) (g0 h1930) (g1) (g2) (g3) (g4)) (zr_2_0 i184_14 (zr_6 i184_15 fl_0_11 rfl (zr_25 i184_16))))))) zm_o)))))
set_option maxRecDepth 100000 in
theorem s214_2 {L : Nat} (x1 : Int32) (S : zS) (g0 : (¬ (7 ≤ x1)) → zx 7 x1) : zt L 214 2 [some (.inr (.inr 13)), some (.inl x1)] [] S (if (7 ≤ x1) then (.inl (17, [some (.inr (.inr 13)), some (.inl x1)], [], S)) else (.inl (2, [some (.inr (.inr 13)), some (.inl (x1 + 1))], [], (z_up (z_up S 82 x1.toNatClampNeg (-1)) 83 x1.toNatClampNeg (-1))))) := zr_1_1 i214_2 (zr_0 i214_3 kc_7 (zr_19_3 i214_4 (fun h1935 => zt_rfl) (fun h1936 => zr_2_0 i214_5 (zr_6r i214_6 fl_13_7 (zr_1_1 i214_7 (zr_0 i214_8 kc_m1 (zr_10 i214_9 ar_82 (g0 h1936) rfl (zr_2_0 i214_10 (zr_6r i214_11 fl_13_8 (zr_1_1 i214_12 (zr_0 i214_13 kc_m1 (zr_10 i214_14 ar_83 (g0 h1936) rfl (zr_5_1 i214_15 kc_1 (zr_17 i214_16 (zt_rfl)))))))))))))))
def k214_2 (j : Nat) (a : zS) : zS := (z_up (z_up a 82 j (-1)) 83 j (-1))
set_option maxRecDepth 100000 in
theorem l214_2 {L : Nat} (i0 n : Nat) (a : zS) (hn : i0 + n < 2147483648) (hc0 : ∀ j, j < n → ¬ (7 ≤ (Int32.ofNat (i0 + j)))) (g0 : ∀ j, j < n → (¬ (7 ≤ (Int32.ofNat (i0 + j)))) → zx 7 (Int32.ofNat (i0 + j))) : zt L 214 2 [some (.inr (.inr 13)), some (.inl (Int32.ofNat i0))] [] a (.inl (2, [some (.inr (.inr 13)), some (.inl (Int32.ofNat (i0 + n)))], [], (zfold (k214_2 ) i0 n a))) := by
  induction n with
  | zero => exact zt_rfl
  | succ n ih =>
    have e1 := zk_ix (i0 + n) (by omega)
    have e2 := zk_add (i0 + n)
    refine zt_trans (ih (by omega) (fun j hj => hc0 j (by omega)) (fun j hj => g0 j (by omega))) ?_
    refine zt_cast (s214_2 (Int32.ofNat (i0 + n)) (zfold (k214_2 ) i0 n a) (by have hg := g0 n (by omega); first | exact hg | (simp only [e1]; exact hg))) ?_
    rw [if_neg (show ¬ (7 ≤ (Int32.ofNat (i0 + n))) from (by have hg := hc0 n (by omega); first | exact hg | (simp only [e1]; exact hg)))]
    simp only [zfold, k214_2, e1, e2, ← Nat.add_assoc]
def K214_2 (i0 : Nat) (S : zS) : zS := zfold (k214_2 ) i0 (7 - i0) S
def K214_2_S (i0 : Nat) (S : zS) : zS := (K214_2  i0 S)
set_option maxRecDepth 100000 in
theorem L214_2 {L : Nat} (i0 : Nat) (S : zS) (hi : i0 ≤ 10000) : zt L 214 2 [some (.inr (.inr 13)), some (.inl (Int32.ofNat i0))] [] S (.inl (17, [some (.inr (.inr 13)), some (.inl (Int32.ofNat (i0 + (7 - i0))))], [], (K214_2_S  i0 S))) := by
  have hend : 7 ≤ Int32.ofNat (i0 + (7 - i0)) := by exact zc_le_end (show zn 7 7 from by unfold zn; decide) (by omega)
  refine zt_trans (l214_2    i0 (7 - i0) S (by omega) (fun j hj => by exact zc_le (show zn 7 7 from by unfold zn; decide) hj (by omega)) (fun j hj _ => by exact zx_of (by omega) (by omega))) ?_
  exact zt_cast (s214_2 (Int32.ofNat (i0 + (7 - i0))) (zfold (k214_2 ) i0 (7 - i0) S) (fun h9 => absurd hend h9)) (if_pos hend)
set_option maxRecDepth 100000 in
theorem f214 {L : Nat} (S : zS) : zf L 214 [.inr (.inr 13)] S (.inl none, (K214_2_S 0 S), 0) := zf_of (en_214 _) (zr_0 i214_0 kc_0 (zr_3_1 i214_1 (zt_trans (L214_2  0 S (by decide) ) (zr_27 i214_17))))
set_option maxRecDepth 100000 in
theorem s216_52 {L : Nat} (x1 x2 x3 x4 x5 x6 x7 x8 : Int32) (S : zS) : zt L 216 52 [some (.inr (.inr 13)), some (.inl x1), some (.inl x2), some (.inl x3), some (.inl x4), some (.inl x5), some (.inl x6), some (.inl x7), some (.inl x8)] [] S (if (x5 ≤ x8) then (.inl (63, [some (.inr (.inr 13)), some (.inl x1), some (.inl x2), some (.inl x3), some (.inl x4), some (.inl x5), some (.inl x6), some (.inl x7), some (.inl x8)], [], S)) else (.inl (52, [some (.inr (.inr 13)), some (.inl x1), some (.inl x2), some (.inl x3), some (.inl x4), some (.inl x5), some (.inl x6), some (.inl (zrem (x7 * x6) 257)), some (.inl (x8 + 1))], [], S))) := zr_1_8 i216_52 (zr_1_5 i216_53 (zr_19_3 i216_54 (fun h1963 => zt_rfl) (fun h1964 => zr_1_7 i216_55 (zr_1_6 i216_56 (zr_13_2 i216_57 (zr_0 i216_58 kc_257 (zr_13_4 i216_59 nz_257 (zr_3_7 i216_60 (zr_5_8 i216_61 kc_1 (zr_17 i216_62 (zt_rfl)))))))))))
def k216_52 (x1 x2 x3 x4 x5 x6 : Int32) (S : zS) (j : Nat) (a : Int32) : Int32 := (zrem (a * x6) 257)
set_option maxRecDepth 100000 in
theorem l216_52 {L : Nat} (x1 x2 x3 x4 x5 x6 : Int32) (S : zS) (i0 n : Nat) (a : Int32) (hn : i0 + n < 2147483648) (hc0 : ∀ j, j < n → ¬ (x5 ≤ (Int32.ofNat (i0 + j)))) : zt L 216 52 [some (.inr (.inr 13)), some (.inl x1), some (.inl x2), some (.inl x3), some (.inl x4), some (.inl x5), some (.inl x6), some (.inl a), some (.inl (Int32.ofNat i0))] [] S (.inl (52, [some (.inr (.inr 13)), some (.inl x1), some (.inl x2), some (.inl x3), some (.inl x4), some (.inl x5), some (.inl x6), some (.inl (zfold (k216_52 x1 x2 x3 x4 x5 x6 S) i0 n a)), some (.inl (Int32.ofNat (i0 + n)))], [], S)) := by
  induction n with
  | zero => exact zt_rfl
  | succ n ih =>
    have e1 := zk_ix (i0 + n) (by omega)
    have e2 := zk_add (i0 + n)
    refine zt_trans (ih (by omega) (fun j hj => hc0 j (by omega))) ?_
    refine zt_cast (s216_52 x1 x2 x3 x4 x5 x6 (zfold (k216_52 x1 x2 x3 x4 x5 x6 S) i0 n a) (Int32.ofNat (i0 + n)) S) ?_
    rw [if_neg (show ¬ (x5 ≤ (Int32.ofNat (i0 + n))) from (by have hg := hc0 n (by omega); first | exact hg | (simp only [e1]; exact hg)))]
    simp only [zfold, k216_52, e1, e2, ← Nat.add_assoc]
def K216_52 (x1 x2 x3 x4 x5 x6 x7 : Int32) (i0 : Nat) (S : zS) : Int32 := zfold (k216_52 x1 x2 x3 x4 x5 x6 S) i0 (x5.toNatClampNeg - i0) x7
def K216_52_c7 (x1 x2 x3 x4 x5 x6 x7 : Int32) (i0 : Nat) (S : zS) : Int32 := (K216_52 x1 x2 x3 x4 x5 x6 x7 i0 S)
set_option maxRecDepth 100000 in
theorem L216_52 {L : Nat} (x1 x2 x3 x4 x5 x6 x7 : Int32) (i0 : Nat) (S : zS) (hi : i0 ≤ 10000) (h0 : zn 6 x5) : zt L 216 52 [some (.inr (.inr 13)), some (.inl x1), some (.inl x2), some (.inl x3), some (.inl x4), some (.inl x5), some (.inl x6), some (.inl x7), some (.inl (Int32.ofNat i0))] [] S (.inl (63, [some (.inr (.inr 13)), some (.inl x1), some (.inl x2), some (.inl x3), some (.inl x4), some (.inl x5), some (.inl x6), some (.inl (K216_52_c7 x1 x2 x3 x4 x5 x6 x7 i0 S)), some (.inl (Int32.ofNat (i0 + (x5.toNatClampNeg - i0))))], [], S)) := by
  have hend : x5 ≤ Int32.ofNat (i0 + (x5.toNatClampNeg - i0)) := by exact zc_le_end h0 (by omega)
  refine zt_trans (l216_52 x1 x2 x3 x4 x5 x6  S i0 (x5.toNatClampNeg - i0) x7 (by have := zn_cl h0; omega) (fun j hj => by exact zc_le h0 hj (by omega)) ) ?_
  exact zt_cast (s216_52 x1 x2 x3 x4 x5 x6 (zfold (k216_52 x1 x2 x3 x4 x5 x6 S) i0 (x5.toNatClampNeg - i0) x7) (Int32.ofNat (i0 + (x5.toNatClampNeg - i0))) S ) (if_pos hend)
set_option maxRecDepth 100000 in
theorem s216_43 {L : Nat} (x1 x2 x3 x4 x5 x6 : Int32) (u7 u8 : Option zV) (S : zS) (g0 : (¬ (x2 < x6)) → zn 6 x5) (g1 : (¬ (x2 < x6)) → zx 7 x6) : zt L 216 43 [some (.inr (.inr 13)), some (.inl x1), some (.inl x2), some (.inl x3), some (.inl x4), some (.inl x5), some (.inl x6), u7, u8] [] S (if (x2 < x6) then (.inl (77, [some (.inr (.inr 13)), some (.inl x1), some (.inl x2), some (.inl x3), some (.inl x4), some (.inl x5), some (.inl x6), u7, u8], [], S)) else (.inl (43, [some (.inr (.inr 13)), some (.inl x1), some (.inl x2), some (.inl x3), some (.inl x4), some (.inl x5), some (.inl (x6 + 1)), some (.inl (K216_52_c7 x1 x2 x3 x4 x5 x6 (zrem x4 257) 0 S)), some (.inl (Int32.ofNat (0 + (x5.toNatClampNeg - 0))))], [], (z_up S 81 x6.toNatClampNeg (zrem ((S 81 x6.toNatClampNeg) + (K216_52_c7 x1 x2 x3 x4 x5 x6 (zrem x4 257) 0 S)) 257))))) := zr_1_6 i216_43 (zr_1_2 i216_44 (zr_19_4 i216_45 (fun h1965 => zt_rfl) (fun h1966 => zr_1_4 i216_46 (zr_0 i216_47 kc_257 (zr_13_4 i216_48 nz_257 (zr_3_7 i216_49 (zr_0 i216_50 kc_0 (zr_3_8 i216_51 (zt_trans (L216_52 x1 x2 x3 x4 x5 x6 (zrem x4 257) 0 S (by decide) (g0 h1966)) (zr_2_0 i216_63 (zr_6r i216_64 fl_13_6 (zr_1_6 i216_65 (zr_2_0 i216_66 (zr_6r i216_67 fl_13_6 (zr_1_6 i216_68 (zr_8 i216_69 ar_81 (g1 h1966) rfl rfl (zr_1_7 i216_70 (zr_13_0 i216_71 (zr_0 i216_72 kc_257 (zr_13_4 i216_73 nz_257 (zr_10 i216_74 ar_81 (g1 h1966) rfl (zr_5_6 i216_75 kc_1 (zr_17 i216_76 (zt_rfl))))))))))))))))))))))))
def k216_43 (x1 x2 x3 x4 x5 : Int32) (j : Nat) (a : Option zV × Option zV × zS) : Option zV × Option zV × zS := ((some (.inl (K216_52_c7 x1 x2 x3 x4 x5 (Int32.ofNat j) (zrem x4 257) 0 a.2.2))), (some (.inl (Int32.ofNat (0 + (x5.toNatClampNeg - 0))))), (z_up a.2.2 81 j (zrem ((a.2.2 81 j) + (K216_52_c7 x1 x2 x3 x4 x5 (Int32.ofNat j) (zrem x4 257) 0 a.2.2)) 257)))
set_option maxRecDepth 100000 in
theorem l216_43 {L : Nat} (x1 x2 x3 x4 x5 : Int32) (i0 n : Nat) (a : Option zV × Option zV × zS) (hn : i0 + n < 2147483648) (hc0 : ∀ j, j < n → ¬ (x2 < (Int32.ofNat (i0 + j)))) (g0 : ∀ j, j < n → (¬ (x2 < (Int32.ofNat (i0 + j)))) → zn 6 x5) (g1 : ∀ j, j < n → (¬ (x2 < (Int32.ofNat (i0 + j)))) → zx 7 (Int32.ofNat (i0 + j))) : zt L 216 43 [some (.inr (.inr 13)), some (.inl x1), some (.inl x2), some (.inl x3), some (.inl x4), some (.inl x5), some (.inl (Int32.ofNat i0)), a.1, a.2.1] [] a.2.2 (.inl (43, [some (.inr (.inr 13)), some (.inl x1), some (.inl x2), some (.inl x3), some (.inl x4), some (.inl x5), some (.inl (Int32.ofNat (i0 + n))), (zfold (k216_43 x1 x2 x3 x4 x5 ) i0 n a).1, (zfold (k216_43 x1 x2 x3 x4 x5 ) i0 n a).2.1], [], (zfold (k216_43 x1 x2 x3 x4 x5 ) i0 n a).2.2)) := by
  induction n with
  | zero => exact zt_rfl
  | succ n ih =>
    have e1 := zk_ix (i0 + n) (by omega)
    have e2 := zk_add (i0 + n)
    refine zt_trans (ih (by omega) (fun j hj => hc0 j (by omega)) (fun j hj => g0 j (by omega)) (fun j hj => g1 j (by omega))) ?_
    refine zt_cast (s216_43 x1 x2 x3 x4 x5 (Int32.ofNat (i0 + n)) (zfold (k216_43 x1 x2 x3 x4 x5 ) i0 n a).1 (zfold (k216_43 x1 x2 x3 x4 x5 ) i0 n a).2.1 (zfold (k216_43 x1 x2 x3 x4 x5 ) i0 n a).2.2 (by have hg := g0 n (by omega); first | exact hg | (simp only [e1]; exact hg)) (by have hg := g1 n (by omega); first | exact hg | (simp only [e1]; exact hg))) ?_
    rw [if_neg (show ¬ (x2 < (Int32.ofNat (i0 + n))) from (by have hg := hc0 n (by omega); first | exact hg | (simp only [e1]; exact hg)))]
    simp only [zfold, k216_43, e1, e2, ← Nat.add_assoc]
def K216_43 (x1 x2 x3 x4 x5 : Int32) (u7 u8 : Option zV) (i0 : Nat) (S : zS) : Option zV × Option zV × zS := zfold (k216_43 x1 x2 x3 x4 x5 ) i0 (x2.toNatClampNeg + 1 - i0) (u7, u8, S)
def K216_43_c7 (x1 x2 x3 x4 x5 : Int32) (u7 u8 : Option zV) (i0 : Nat) (S : zS) : Option zV := (K216_43 x1 x2 x3 x4 x5 u7 u8 i0 S).1
def K216_43_c8 (x1 x2 x3 x4 x5 : Int32) (u7 u8 : Option zV) (i0 : Nat) (S : zS) : Option zV := (K216_43 x1 x2 x3 x4 x5 u7 u8 i0 S).2.1
def K216_43_S (x1 x2 x3 x4 x5 : Int32) (u7 u8 : Option zV) (i0 : Nat) (S : zS) : zS := (K216_43 x1 x2 x3 x4 x5 u7 u8 i0 S).2.2
set_option maxRecDepth 100000 in
theorem L216_43 {L : Nat} (x1 x2 x3 x4 x5 : Int32) (u7 u8 : Option zV) (i0 : Nat) (S : zS) (hi : i0 ≤ 10000) (h0 : zn 6 x2) (hq1 : zn 6 x5) : zt L 216 43 [some (.inr (.inr 13)), some (.inl x1), some (.inl x2), some (.inl x3), some (.inl x4), some (.inl x5), some (.inl (Int32.ofNat i0)), u7, u8] [] S (.inl (77, [some (.inr (.inr 13)), some (.inl x1), some (.inl x2), some (.inl x3), some (.inl x4), some (.inl x5), some (.inl (Int32.ofNat (i0 + (x2.toNatClampNeg + 1 - i0)))), (K216_43_c7 x1 x2 x3 x4 x5 u7 u8 i0 S), (K216_43_c8 x1 x2 x3 x4 x5 u7 u8 i0 S)], [], (K216_43_S x1 x2 x3 x4 x5 u7 u8 i0 S))) := by
  have hend : x2 < Int32.ofNat (i0 + (x2.toNatClampNeg + 1 - i0)) := by exact zc_lt_end h0 (by omega) (by omega)
  refine zt_trans (l216_43 x1 x2 x3 x4 x5   i0 (x2.toNatClampNeg + 1 - i0) (u7, u8, S) (by have := zn_cl h0; omega) (fun j hj => by exact zc_lt h0 hj (by omega)) (fun j hj _ => by exact hq1) (fun j hj _ => by exact zx_of (by have := zn_cl h0; omega) (by have := zn_cl h0; omega))) ?_
  exact zt_cast (s216_43 x1 x2 x3 x4 x5 (Int32.ofNat (i0 + (x2.toNatClampNeg + 1 - i0))) (zfold (k216_43 x1 x2 x3 x4 x5 ) i0 (x2.toNatClampNeg + 1 - i0) (u7, u8, S)).1 (zfold (k216_43 x1 x2 x3 x4 x5 ) i0 (x2.toNatClampNeg + 1 - i0) (u7, u8, S)).2.1 (zfold (k216_43 x1 x2 x3 x4 x5 ) i0 (x2.toNatClampNeg + 1 - i0) (u7, u8, S)).2.2 (fun h9 => absurd hend h9) (fun h9 => absurd hend h9)) (if_pos hend)
set_option maxRecDepth 100000 in
theorem s216_35 {L : Nat} (x1 x2 x3 x4 x5 : Int32) (u6 u7 u8 : Option zV) (S : zS) (g0 : (¬ (x3 ≤ x5)) → zn 6 x2) (g1 : (¬ (x3 ≤ x5)) → zn 6 x5) : zt L 216 35 [some (.inr (.inr 13)), some (.inl x1), some (.inl x2), some (.inl x3), some (.inl x4), some (.inl x5), u6, u7, u8] [] S (if (x3 ≤ x5) then (.inl (79, [some (.inr (.inr 13)), some (.inl x1), some (.inl x2), some (.inl x3), some (.inl x4), some (.inl x5), u6, u7, u8], [], S)) else (.inl (35, [some (.inr (.inr 13)), some (.inl x1), some (.inl x2), some (.inl x3), some (.inl (zrem ((1103 * x4) + 12345) 65536)), some (.inl (x5 + 1)), some (.inl (Int32.ofNat (1 + (x2.toNatClampNeg + 1 - 1)))), (K216_43_c7 x1 x2 x3 (zrem ((1103 * x4) + 12345) 65536) x5 (u7 : Option zV) (u8 : Option zV) 1 S), (K216_43_c8 x1 x2 x3 (zrem ((1103 * x4) + 12345) 65536) x5 (u7 : Option zV) (u8 : Option zV) 1 S)], [], (K216_43_S x1 x2 x3 (zrem ((1103 * x4) + 12345) 65536) x5 u7 u8 1 S)))) := zr_1_5 i216_35 (zr_1_3 i216_36 (zr_19_3 i216_37 (fun h1967 => zt_rfl) (fun h1968 => zr_1_4 i216_38 (zr_cv (zs_22_1 i216_39 na_215 rfl) (f215 x4 S ) (zr_3_4 i216_40 (zr_0 i216_41 kc_1 (zr_3_6 i216_42 (zt_trans (L216_43 x1 x2 x3 (zrem ((1103 * x4) + 12345) 65536) x5 (u7 : Option zV) (u8 : Option zV) 1 S (by decide) (g0 h1968) (g1 h1968)) (zr_5_5 i216_77 kc_1 (zr_17 i216_78 (zt_rfl)))))))))))
def k216_35 (x1 x2 x3 : Int32) (j : Nat) (a : Int32 × Option zV × Option zV × Option zV × zS) : Int32 × Option zV × Option zV × Option zV × zS := ((zrem ((1103 * a.1) + 12345) 65536), (some (.inl (Int32.ofNat (1 + (x2.toNatClampNeg + 1 - 1))))), (K216_43_c7 x1 x2 x3 (zrem ((1103 * a.1) + 12345) 65536) (Int32.ofNat j) a.2.2.1 a.2.2.2.1 1 a.2.2.2.2), (K216_43_c8 x1 x2 x3 (zrem ((1103 * a.1) + 12345) 65536) (Int32.ofNat j) a.2.2.1 a.2.2.2.1 1 a.2.2.2.2), (K216_43_S x1 x2 x3 (zrem ((1103 * a.1) + 12345) 65536) (Int32.ofNat j) a.2.2.1 a.2.2.2.1 1 a.2.2.2.2))
set_option maxRecDepth 100000 in
theorem l216_35 {L : Nat} (x1 x2 x3 : Int32) (i0 n : Nat) (a : Int32 × Option zV × Option zV × Option zV × zS) (hn : i0 + n < 2147483648) (hc0 : ∀ j, j < n → ¬ (x3 ≤ (Int32.ofNat (i0 + j)))) (g0 : ∀ j, j < n → (¬ (x3 ≤ (Int32.ofNat (i0 + j)))) → zn 6 x2) (g1 : ∀ j, j < n → (¬ (x3 ≤ (Int32.ofNat (i0 + j)))) → zn 6 (Int32.ofNat (i0 + j))) : zt L 216 35 [some (.inr (.inr 13)), some (.inl x1), some (.inl x2), some (.inl x3), some (.inl a.1), some (.inl (Int32.ofNat i0)), a.2.1, a.2.2.1, a.2.2.2.1] [] a.2.2.2.2 (.inl (35, [some (.inr (.inr 13)), some (.inl x1), some (.inl x2), some (.inl x3), some (.inl (zfold (k216_35 x1 x2 x3 ) i0 n a).1), some (.inl (Int32.ofNat (i0 + n))), (zfold (k216_35 x1 x2 x3 ) i0 n a).2.1, (zfold (k216_35 x1 x2 x3 ) i0 n a).2.2.1, (zfold (k216_35 x1 x2 x3 ) i0 n a).2.2.2.1], [], (zfold (k216_35 x1 x2 x3 ) i0 n a).2.2.2.2)) := by
  induction n with
  | zero => exact zt_rfl
  | succ n ih =>
    have e1 := zk_ix (i0 + n) (by omega)
    have e2 := zk_add (i0 + n)
    refine zt_trans (ih (by omega) (fun j hj => hc0 j (by omega)) (fun j hj => g0 j (by omega)) (fun j hj => g1 j (by omega))) ?_
    refine zt_cast (s216_35 x1 x2 x3 (zfold (k216_35 x1 x2 x3 ) i0 n a).1 (Int32.ofNat (i0 + n)) (zfold (k216_35 x1 x2 x3 ) i0 n a).2.1 (zfold (k216_35 x1 x2 x3 ) i0 n a).2.2.1 (zfold (k216_35 x1 x2 x3 ) i0 n a).2.2.2.1 (zfold (k216_35 x1 x2 x3 ) i0 n a).2.2.2.2 (by have hg := g0 n (by omega); first | exact hg | (simp only [e1]; exact hg)) (by have hg := g1 n (by omega); first | exact hg | (simp only [e1]; exact hg))) ?_
    rw [if_neg (show ¬ (x3 ≤ (Int32.ofNat (i0 + n))) from (by have hg := hc0 n (by omega); first | exact hg | (simp only [e1]; exact hg)))]
    simp only [zfold, k216_35, e1, e2, ← Nat.add_assoc]
def K216_35 (x1 x2 x3 x4 : Int32) (u6 u7 u8 : Option zV) (i0 : Nat) (S : zS) : Int32 × Option zV × Option zV × Option zV × zS := zfold (k216_35 x1 x2 x3 ) i0 (x3.toNatClampNeg - i0) (x4, u6, u7, u8, S)
def K216_35_c4 (x1 x2 x3 x4 : Int32) (u6 u7 u8 : Option zV) (i0 : Nat) (S : zS) : Int32 := (K216_35 x1 x2 x3 x4 u6 u7 u8 i0 S).1
def K216_35_c6 (x1 x2 x3 x4 : Int32) (u6 u7 u8 : Option zV) (i0 : Nat) (S : zS) : Option zV := (K216_35 x1 x2 x3 x4 u6 u7 u8 i0 S).2.1
def K216_35_c7 (x1 x2 x3 x4 : Int32) (u6 u7 u8 : Option zV) (i0 : Nat) (S : zS) : Option zV := (K216_35 x1 x2 x3 x4 u6 u7 u8 i0 S).2.2.1
def K216_35_c8 (x1 x2 x3 x4 : Int32) (u6 u7 u8 : Option zV) (i0 : Nat) (S : zS) : Option zV := (K216_35 x1 x2 x3 x4 u6 u7 u8 i0 S).2.2.2.1
def K216_35_S (x1 x2 x3 x4 : Int32) (u6 u7 u8 : Option zV) (i0 : Nat) (S : zS) : zS := (K216_35 x1 x2 x3 x4 u6 u7 u8 i0 S).2.2.2.2
set_option maxRecDepth 100000 in
theorem L216_35 {L : Nat} (x1 x2 x3 x4 : Int32) (u6 u7 u8 : Option zV) (i0 : Nat) (S : zS) (hi : i0 ≤ 10000) (h0 : zn 6 x3) (hq1 : zn 6 x2) : zt L 216 35 [some (.inr (.inr 13)), some (.inl x1), some (.inl x2), some (.inl x3), some (.inl x4), some (.inl (Int32.ofNat i0)), u6, u7, u8] [] S (.inl (79, [some (.inr (.inr 13)), some (.inl x1), some (.inl x2), some (.inl x3), some (.inl (K216_35_c4 x1 x2 x3 x4 u6 u7 u8 i0 S)), some (.inl (Int32.ofNat (i0 + (x3.toNatClampNeg - i0)))), (K216_35_c6 x1 x2 x3 x4 u6 u7 u8 i0 S), (K216_35_c7 x1 x2 x3 x4 u6 u7 u8 i0 S), (K216_35_c8 x1 x2 x3 x4 u6 u7 u8 i0 S)], [], (K216_35_S x1 x2 x3 x4 u6 u7 u8 i0 S))) := by
  have hend : x3 ≤ Int32.ofNat (i0 + (x3.toNatClampNeg - i0)) := by exact zc_le_end h0 (by omega)
  refine zt_trans (l216_35 x1 x2 x3   i0 (x3.toNatClampNeg - i0) (x4, u6, u7, u8, S) (by have := zn_cl h0; omega) (fun j hj => by exact zc_le h0 hj (by omega)) (fun j hj _ => by exact hq1) (fun j hj _ => by have := zn_cl h0; exact zn_of (by omega))) ?_
  exact zt_cast (s216_35 x1 x2 x3 (zfold (k216_35 x1 x2 x3 ) i0 (x3.toNatClampNeg - i0) (x4, u6, u7, u8, S)).1 (Int32.ofNat (i0 + (x3.toNatClampNeg - i0))) (zfold (k216_35 x1 x2 x3 ) i0 (x3.toNatClampNeg - i0) (x4, u6, u7, u8, S)).2.1 (zfold (k216_35 x1 x2 x3 ) i0 (x3.toNatClampNeg - i0) (x4, u6, u7, u8, S)).2.2.1 (zfold (k216_35 x1 x2 x3 ) i0 (x3.toNatClampNeg - i0) (x4, u6, u7, u8, S)).2.2.2.1 (zfold (k216_35 x1 x2 x3 ) i0 (x3.toNatClampNeg - i0) (x4, u6, u7, u8, S)).2.2.2.2 (fun h9 => absurd hend h9) (fun h9 => absurd hend h9)) (if_pos hend)
set_option maxRecDepth 100000 in
theorem s216_22 {L : Nat} (x1 x2 x3 x4 x5 : Int32) (S : zS) (g0 : (¬ (x2 < x5)) → zx 7 x5) : zt L 216 22 [some (.inr (.inr 13)), some (.inl x1), some (.inl x2), some (.inl x3), some (.inl x4), some (.inl x5), none, none, none] [] S (if (x2 < x5) then (.inl (33, [some (.inr (.inr 13)), some (.inl x1), some (.inl x2), some (.inl x3), some (.inl x4), some (.inl x5), none, none, none], [], S)) else (.inl (22, [some (.inr (.inr 13)), some (.inl x1), some (.inl x2), some (.inl x3), some (.inl x4), some (.inl (x5 + 1)), none, none, none], [], (z_up S 81 x5.toNatClampNeg (S 13 3))))) := zr_1_5 i216_22 (zr_1_2 i216_23 (zr_19_4 i216_24 (fun h1969 => zt_rfl) (fun h1970 => zr_2_0 i216_25 (zr_6r i216_26 fl_13_6 (zr_1_5 i216_27 (zr_2_0 i216_28 (zr_6 i216_29 fl_13_3 rfl (zr_10 i216_30 ar_81 (g0 h1970) rfl (zr_5_5 i216_31 kc_1 (zr_17 i216_32 (zt_rfl)))))))))))
def k216_22 (x1 x2 x3 x4 : Int32) (j : Nat) (a : zS) : zS := (z_up a 81 j (a 13 3))
set_option maxRecDepth 100000 in
theorem l216_22 {L : Nat} (x1 x2 x3 x4 : Int32) (i0 n : Nat) (a : zS) (hn : i0 + n < 2147483648) (hc0 : ∀ j, j < n → ¬ (x2 < (Int32.ofNat (i0 + j)))) (g0 : ∀ j, j < n → (¬ (x2 < (Int32.ofNat (i0 + j)))) → zx 7 (Int32.ofNat (i0 + j))) : zt L 216 22 [some (.inr (.inr 13)), some (.inl x1), some (.inl x2), some (.inl x3), some (.inl x4), some (.inl (Int32.ofNat i0)), none, none, none] [] a (.inl (22, [some (.inr (.inr 13)), some (.inl x1), some (.inl x2), some (.inl x3), some (.inl x4), some (.inl (Int32.ofNat (i0 + n))), none, none, none], [], (zfold (k216_22 x1 x2 x3 x4 ) i0 n a))) := by
  induction n with
  | zero => exact zt_rfl
  | succ n ih =>
    have e1 := zk_ix (i0 + n) (by omega)
    have e2 := zk_add (i0 + n)
    refine zt_trans (ih (by omega) (fun j hj => hc0 j (by omega)) (fun j hj => g0 j (by omega))) ?_
    refine zt_cast (s216_22 x1 x2 x3 x4 (Int32.ofNat (i0 + n)) (zfold (k216_22 x1 x2 x3 x4 ) i0 n a) (by have hg := g0 n (by omega); first | exact hg | (simp only [e1]; exact hg))) ?_
    rw [if_neg (show ¬ (x2 < (Int32.ofNat (i0 + n))) from (by have hg := hc0 n (by omega); first | exact hg | (simp only [e1]; exact hg)))]
    simp only [zfold, k216_22, e1, e2, ← Nat.add_assoc]
def K216_22 (x1 x2 x3 x4 : Int32) (i0 : Nat) (S : zS) : zS := zfold (k216_22 x1 x2 x3 x4 ) i0 (x2.toNatClampNeg + 1 - i0) S
def K216_22_S (x1 x2 x3 x4 : Int32) (i0 : Nat) (S : zS) : zS := (K216_22 x1 x2 x3 x4 i0 S)
set_option maxRecDepth 100000 in
theorem L216_22 {L : Nat} (x1 x2 x3 x4 : Int32) (i0 : Nat) (S : zS) (hi : i0 ≤ 10000) (h0 : zn 6 x2) : zt L 216 22 [some (.inr (.inr 13)), some (.inl x1), some (.inl x2), some (.inl x3), some (.inl x4), some (.inl (Int32.ofNat i0)), none, none, none] [] S (.inl (33, [some (.inr (.inr 13)), some (.inl x1), some (.inl x2), some (.inl x3), some (.inl x4), some (.inl (Int32.ofNat (i0 + (x2.toNatClampNeg + 1 - i0)))), none, none, none], [], (K216_22_S x1 x2 x3 x4 i0 S))) := by
  have hend : x2 < Int32.ofNat (i0 + (x2.toNatClampNeg + 1 - i0)) := by exact zc_lt_end h0 (by omega) (by omega)
  refine zt_trans (l216_22 x1 x2 x3 x4   i0 (x2.toNatClampNeg + 1 - i0) S (by have := zn_cl h0; omega) (fun j hj => by exact zc_lt h0 hj (by omega)) (fun j hj _ => by exact zx_of (by have := zn_cl h0; omega) (by have := zn_cl h0; omega))) ?_
  exact zt_cast (s216_22 x1 x2 x3 x4 (Int32.ofNat (i0 + (x2.toNatClampNeg + 1 - i0))) (zfold (k216_22 x1 x2 x3 x4 ) i0 (x2.toNatClampNeg + 1 - i0) S) (fun h9 => absurd hend h9)) (if_pos hend)
def G216 (a b c : Int32) (S : zS) : zS := (K216_35_S a b c (if ((S 13 3) = (-1)) then ((zrem ((1103 * a) + 12345) 65536) : Int32) else a) (none : Option zV) (none : Option zV) (none : Option zV) 1 (K216_22_S a b c (if ((S 13 3) = (-1)) then ((zrem ((1103 * a) + 12345) 65536) : Int32) else a) 1 (z_up (z_up (if ((S 13 3) = (-1)) then (z_up S 13 3 (zrem (zrem ((1103 * a) + 12345) 65536) 257)) else S) 13 4 b) 13 5 c)))
set_option maxRecDepth 100000 in
theorem f216 {L : Nat} (a b c : Int32) (S : zS) (g0 : zn 6 b) (g1 : zn 6 c) : zf L 216 [.inr (.inr 13), .inl a, .inl b, .inl c] S (.inl none, (G216 a b c S), 0) := zf_of (en_216 _ _ _ _) (zr_1_1 i216_0 (zr_3_4 i216_1 (zr_2_0 i216_2 (zr_6 i216_3 fl_13_3 rfl (zr_0 i216_4 kc_m1 (zt_trans (zt_cast (zr_19_1 i216_5 (fun h1971 => zr_1_4 i216_6 (zr_cv (zs_22_1 i216_7 na_215 rfl) (f215 a S ) (zr_3_4 i216_8 (zr_2_0 i216_9 (zr_1_4 i216_10 (zr_0 i216_11 kc_257 (zr_13_4 i216_12 nz_257 (zr_7 i216_13 fl_13_3 (zt_rfl))))))))) (fun h1972 => zt_rfl)) (zm_c (zl_c zz_s (zl_c zz_s (zl_c zz_s (zl_c zz_s (zl_c (zl_v zz_e) zz_s))))) zz_s zz_e)) (zr_2_0 i216_14 (zr_1_2 i216_15 (zr_7 i216_16 fl_13_4 (zr_2_0 i216_17 (zr_1_3 i216_18 (zr_7 i216_19 fl_13_5 (zr_0 i216_20 kc_1 (zr_3_5 i216_21 (zt_trans (L216_22 a b c (if ((S 13 3) = (-1)) then ((zrem ((1103 * a) + 12345) 65536) : Int32) else a) 1 (z_up (z_up (if ((S 13 3) = (-1)) then (z_up S 13 3 (zrem (zrem ((1103 * a) + 12345) 65536) 257)) else S) 13 4 b) 13 5 c) (by decide) (g0)) (zr_0 i216_33 kc_1 (zr_3_5 i216_34 (zt_trans (L216_35 a b c (if ((S 13 3) = (-1)) then ((zrem ((1103 * a) + 12345) 65536) : Int32) else a) (none : Option zV) (none : Option zV) (none : Option zV) 1 (K216_22_S a b c (if ((S 13 3) = (-1)) then ((zrem ((1103 * a) + 12345) 65536) : Int32) else a) 1 (z_up (z_up (if ((S 13 3) = (-1)) then (z_up S 13 3 (zrem (zrem ((1103 * a) + 12345) 65536) 257)) else S) 13 4 b) 13 5 c)) (by decide) (g1) (g0)) (zr_27 i216_79)))))))))))))))))))
def G218 (a b c : Int32) (S : zS) : zS := (if ((if (((¬ (a < 0)) ∧ (¬ (65535 < a))) ∧ (((¬ (b < 1)) ∧ (¬ (6 < b))) ∧ ((¬ (c < 1)) ∧ (¬ (b < c))))) then ((if ((S 13 4) ≤ 0) then (0 : Int32) else 2) : Int32) else 1) = 0) then (G216 a b c (z_up S 13 0 (if (((¬ (a < 0)) ∧ (¬ (65535 < a))) ∧ (((¬ (b < 1)) ∧ (¬ (6 < b))) ∧ ((¬ (c < 1)) ∧ (¬ (b < c))))) then ((if ((S 13 4) ≤ 0) then (0 : Int32) else 2) : Int32) else 1))) else (z_up S 13 0 (if (((¬ (a < 0)) ∧ (¬ (65535 < a))) ∧ (((¬ (b < 1)) ∧ (¬ (6 < b))) ∧ ((¬ (c < 1)) ∧ (¬ (b < c))))) then ((if ((S 13 4) ≤ 0) then (0 : Int32) else 2) : Int32) else 1)))
set_option maxRecDepth 100000 in
theorem f218 {L : Nat} (a b c : Int32) (S : zS) (g0 : ((if (((¬ (a < 0)) ∧ (¬ (65535 < a))) ∧ (((¬ (b < 1)) ∧ (¬ (6 < b))) ∧ ((¬ (c < 1)) ∧ (¬ (b < c))))) then ((if ((S 13 4) ≤ 0) then (0 : Int32) else 2) : Int32) else 1) = 0) → zn 6 b) (g1 : ((if (((¬ (a < 0)) ∧ (¬ (65535 < a))) ∧ (((¬ (b < 1)) ∧ (¬ (6 < b))) ∧ ((¬ (c < 1)) ∧ (¬ (b < c))))) then ((if ((S 13 4) ≤ 0) then (0 : Int32) else 2) : Int32) else 1) = 0) → zn 6 c) : zf L 218 [.inr (.inr 13), .inl a, .inl b, .inl c] S (.inl none, (G218 a b c S), 0) := zf_of (en_218 _ _ _ _) (zr_2_0 i218_0 (zr_1_1 i218_1 (zr_1_2 i218_2 (zr_1_3 i218_3 (zr_cv (zs_22_3 i218_4 na_217 rfl) (f217 a b c S ) (zt_trans (zt_cast (zr_18b_1 i218_5 (fun h1973 => zr_2_0 i218_8 (zr_6 i218_9 fl_13_4 rfl (zt_cast (zr_18_5 i218_10 (fun h1975 => zr_0 i218_13 kc_0 (zt_rfl)) (fun h1976 => zr_0 i218_11 kc_2 (zr_17 i218_12 (zt_rfl)))) (zm_c zz_s (zl_c (zl_t zz_e) zz_s) zz_s)))) (fun h1974 => zr_0 i218_6 kc_1 (zr_17 i218_7 (zt_rfl)))) (zm_c zz_s (zl_c (zl_t zz_e) zz_s) zz_s)) (zr_cv (zs_21_1 i218_14 na_212 ob_13 rfl) (f212 (if (((¬ (a < 0)) ∧ (¬ (65535 < a))) ∧ (((¬ (b < 1)) ∧ (¬ (6 < b))) ∧ ((¬ (c < 1)) ∧ (¬ (b < c))))) then ((if ((S 13 4) ≤ 0) then (0 : Int32) else 2) : Int32) else 1) S ) (zt_trans (zt_cast (zr_18b_0 i218_15 (fun h1977 => zr_2_0 i218_16 (zr_1_1 i218_17 (zr_1_2 i218_18 (zr_1_3 i218_19 (zr_cn (zs_21_3 i218_20 na_216 ob_13 rfl) (f216 a b c (z_up S 13 0 (if (((¬ (a < 0)) ∧ (¬ (65535 < a))) ∧ (((¬ (b < 1)) ∧ (¬ (6 < b))) ∧ ((¬ (c < 1)) ∧ (¬ (b < c))))) then ((if ((S 13 4) ≤ 0) then (0 : Int32) else 2) : Int32) else 1)) (g0 h1977) (g1 h1977)) (zt_rfl)))))) (fun h1978 => zt_rfl)) (zm_c zz_s zz_s zz_e)) (zr_27 i218_21)))))))))
set_option maxRecDepth 100000 in
theorem s220_82_4 {L : Nat} (x1 x2 : Int32) (S : zS) (g0 : (¬ (7 ≤ x2)) → zx 7 x2) : zt L 220 4 [some (.inr (.inr 82)), some (.inl x1), some (.inl x2)] [] S (if (7 ≤ x2) then (.inl (20, [some (.inr (.inr 82)), some (.inl x1), some (.inl x2)], [], S)) else (.inl (4, [some (.inr (.inr 82)), some (.inl (x1 + (zb (¬ ((S 82 x2.toNatClampNeg) = (-1)))))), some (.inl (x2 + 1))], [], S))) := zr_1_2 i220_4 (zr_0 i220_5 kc_7 (zr_19_3 i220_6 (fun h1987 => zt_rfl) (fun h1988 => zr_1_1 i220_7 (zr_2_0 i220_8 (zr_1_2 i220_9 (zr_8 i220_10 ar_82 (g0 h1988) rfl rfl (zr_0 i220_11 kc_m1 (zt_trans (zt_cast (zr_19_1 i220_12 (fun h1989 => zr_0 i220_13 kc_0 (zr_17 i220_14 (zt_rfl))) (fun h1990 => zr_0 i220_15 kc_1 (zt_rfl))) (zm_c zz_s (zl_c (zl_t zz_01) zz_s) zz_s)) (zr_13_0 i220_16 (zr_3_1 i220_17 (zr_5_2 i220_18 kc_1 (zr_17 i220_19 (zt_rfl)))))))))))))
def k220_82_4 (S : zS) (j : Nat) (a : Int32) : Int32 := (a + (zb (¬ ((S 82 j) = (-1)))))
set_option maxRecDepth 100000 in
theorem l220_82_4 {L : Nat} (S : zS) (i0 n : Nat) (a : Int32) (hn : i0 + n < 2147483648) (hc0 : ∀ j, j < n → ¬ (7 ≤ (Int32.ofNat (i0 + j)))) (g0 : ∀ j, j < n → (¬ (7 ≤ (Int32.ofNat (i0 + j)))) → zx 7 (Int32.ofNat (i0 + j))) : zt L 220 4 [some (.inr (.inr 82)), some (.inl a), some (.inl (Int32.ofNat i0))] [] S (.inl (4, [some (.inr (.inr 82)), some (.inl (zfold (k220_82_4 S) i0 n a)), some (.inl (Int32.ofNat (i0 + n)))], [], S)) := by
  induction n with
  | zero => exact zt_rfl
  | succ n ih =>
    have e1 := zk_ix (i0 + n) (by omega)
    have e2 := zk_add (i0 + n)
    refine zt_trans (ih (by omega) (fun j hj => hc0 j (by omega)) (fun j hj => g0 j (by omega))) ?_
    refine zt_cast (s220_82_4 (zfold (k220_82_4 S) i0 n a) (Int32.ofNat (i0 + n)) S (by have hg := g0 n (by omega); first | exact hg | (simp only [e1]; exact hg))) ?_
    rw [if_neg (show ¬ (7 ≤ (Int32.ofNat (i0 + n))) from (by have hg := hc0 n (by omega); first | exact hg | (simp only [e1]; exact hg)))]
    simp only [zfold, k220_82_4, e1, e2, ← Nat.add_assoc]
def K220_82_4 (x1 : Int32) (i0 : Nat) (S : zS) : Int32 := zfold (k220_82_4 S) i0 (7 - i0) x1
def K220_82_4_c1 (x1 : Int32) (i0 : Nat) (S : zS) : Int32 := (K220_82_4 x1 i0 S)
set_option maxRecDepth 100000 in
theorem L220_82_4 {L : Nat} (x1 : Int32) (i0 : Nat) (S : zS) (hi : i0 ≤ 10000) : zt L 220 4 [some (.inr (.inr 82)), some (.inl x1), some (.inl (Int32.ofNat i0))] [] S (.inl (20, [some (.inr (.inr 82)), some (.inl (K220_82_4_c1 x1 i0 S)), some (.inl (Int32.ofNat (i0 + (7 - i0))))], [], S)) := by
  have hend : 7 ≤ Int32.ofNat (i0 + (7 - i0)) := by exact zc_le_end (show zn 7 7 from by unfold zn; decide) (by omega)
  refine zt_trans (l220_82_4   S i0 (7 - i0) x1 (by omega) (fun j hj => by exact zc_le (show zn 7 7 from by unfold zn; decide) hj (by omega)) (fun j hj _ => by exact zx_of (by omega) (by omega))) ?_
  exact zt_cast (s220_82_4 (zfold (k220_82_4 S) i0 (7 - i0) x1) (Int32.ofNat (i0 + (7 - i0))) S (fun h9 => absurd hend h9)) (if_pos hend)
set_option maxRecDepth 100000 in
theorem f220_82 {L : Nat} (S : zS) : zf L 220 [.inr (.inr 82)] S (.inl (some (.inl (K220_82_4_c1 0 1 S))), S, 0) := zf_of (en_220 _) (zr_0 i220_0 kc_0 (zr_3_1 i220_1 (zr_0 i220_2 kc_1 (zr_3_2 i220_3 (zt_trans (L220_82_4 0 1 S (by decide) ) (zr_1_1 i220_20 (zr_25 i220_21)))))))
set_option maxRecDepth 100000 in
theorem s220_83_4 {L : Nat} (x1 x2 : Int32) (S : zS) (g0 : (¬ (7 ≤ x2)) → zx 7 x2) : zt L 220 4 [some (.inr (.inr 83)), some (.inl x1), some (.inl x2)] [] S (if (7 ≤ x2) then (.inl (20, [some (.inr (.inr 83)), some (.inl x1), some (.inl x2)], [], S)) else (.inl (4, [some (.inr (.inr 83)), some (.inl (x1 + (zb (¬ ((S 83 x2.toNatClampNeg) = (-1)))))), some (.inl (x2 + 1))], [], S))) := zr_1_2 i220_4 (zr_0 i220_5 kc_7 (zr_19_3 i220_6 (fun h1999 => zt_rfl) (fun h2000 => zr_1_1 i220_7 (zr_2_0 i220_8 (zr_1_2 i220_9 (zr_8 i220_10 ar_83 (g0 h2000) rfl rfl (zr_0 i220_11 kc_m1 (zt_trans (zt_cast (zr_19_1 i220_12 (fun h2001 => zr_0 i220_13 kc_0 (zr_17 i220_14 (zt_rfl))) (fun h2002 => zr_0 i220_15 kc_1 (zt_rfl))) (zm_c zz_s (zl_c (zl_t zz_01) zz_s) zz_s)) (zr_13_0 i220_16 (zr_3_1 i220_17 (zr_5_2 i220_18 kc_1 (zr_17 i220_19 (zt_rfl)))))))))))))
def k220_83_4 (S : zS) (j : Nat) (a : Int32) : Int32 := (a + (zb (¬ ((S 83 j) = (-1)))))
set_option maxRecDepth 100000 in
theorem l220_83_4 {L : Nat} (S : zS) (i0 n : Nat) (a : Int32) (hn : i0 + n < 2147483648) (hc0 : ∀ j, j < n → ¬ (7 ≤ (Int32.ofNat (i0 + j)))) (g0 : ∀ j, j < n → (¬ (7 ≤ (Int32.ofNat (i0 + j)))) → zx 7 (Int32.ofNat (i0 + j))) : zt L 220 4 [some (.inr (.inr 83)), some (.inl a), some (.inl (Int32.ofNat i0))] [] S (.inl (4, [some (.inr (.inr 83)), some (.inl (zfold (k220_83_4 S) i0 n a)), some (.inl (Int32.ofNat (i0 + n)))], [], S)) := by
  induction n with
  | zero => exact zt_rfl
  | succ n ih =>
    have e1 := zk_ix (i0 + n) (by omega)
    have e2 := zk_add (i0 + n)
    refine zt_trans (ih (by omega) (fun j hj => hc0 j (by omega)) (fun j hj => g0 j (by omega))) ?_
    refine zt_cast (s220_83_4 (zfold (k220_83_4 S) i0 n a) (Int32.ofNat (i0 + n)) S (by have hg := g0 n (by omega); first | exact hg | (simp only [e1]; exact hg))) ?_
    rw [if_neg (show ¬ (7 ≤ (Int32.ofNat (i0 + n))) from (by have hg := hc0 n (by omega); first | exact hg | (simp only [e1]; exact hg)))]
    simp only [zfold, k220_83_4, e1, e2, ← Nat.add_assoc]
def K220_83_4 (x1 : Int32) (i0 : Nat) (S : zS) : Int32 := zfold (k220_83_4 S) i0 (7 - i0) x1
def K220_83_4_c1 (x1 : Int32) (i0 : Nat) (S : zS) : Int32 := (K220_83_4 x1 i0 S)
set_option maxRecDepth 100000 in
theorem L220_83_4 {L : Nat} (x1 : Int32) (i0 : Nat) (S : zS) (hi : i0 ≤ 10000) : zt L 220 4 [some (.inr (.inr 83)), some (.inl x1), some (.inl (Int32.ofNat i0))] [] S (.inl (20, [some (.inr (.inr 83)), some (.inl (K220_83_4_c1 x1 i0 S)), some (.inl (Int32.ofNat (i0 + (7 - i0))))], [], S)) := by
  have hend : 7 ≤ Int32.ofNat (i0 + (7 - i0)) := by exact zc_le_end (show zn 7 7 from by unfold zn; decide) (by omega)
  refine zt_trans (l220_83_4   S i0 (7 - i0) x1 (by omega) (fun j hj => by exact zc_le (show zn 7 7 from by unfold zn; decide) hj (by omega)) (fun j hj _ => by exact zx_of (by omega) (by omega))) ?_
  exact zt_cast (s220_83_4 (zfold (k220_83_4 S) i0 (7 - i0) x1) (Int32.ofNat (i0 + (7 - i0))) S (fun h9 => absurd hend h9)) (if_pos hend)
set_option maxRecDepth 100000 in
theorem f220_83 {L : Nat} (S : zS) : zf L 220 [.inr (.inr 83)] S (.inl (some (.inl (K220_83_4_c1 0 1 S))), S, 0) := zf_of (en_220 _) (zr_0 i220_0 kc_0 (zr_3_1 i220_1 (zr_0 i220_2 kc_1 (zr_3_2 i220_3 (zt_trans (L220_83_4 0 1 S (by decide) ) (zr_1_1 i220_20 (zr_25 i220_21)))))))
-- 221 X12_inverse: cut points [2, 11]
set_option maxRecDepth 100000 in
theorem s221_e {L : Nat} (a : Int32) (S : zS) : zt L 221 0 [some (.inl a), none] [] S (.inl (2, [some (.inl a), some (.inl 1)], [], S)) := zr_0 i221_0 kc_1 (zr_3_1 i221_1 (zt_rfl))
set_option maxRecDepth 100000 in
theorem s221_2 {L : Nat} (x0 x1 : Int32) (S : zS) : zt L 221 2 [some (.inl x0), some (.inl x1)] [] S (if ((zrem (x1 * x0) 257) = 1) then (.inl (11, [some (.inl x0), some (.inl x1)], [], S)) else (.inl (2, [some (.inl x0), some (.inl (x1 + 1))], [], S))) := zr_1_1 i221_2 (zr_1_0 i221_3 (zr_13_2 i221_4 (zr_0 i221_5 kc_257 (zr_13_4 i221_6 nz_257 (zr_0 i221_7 kc_1 (zr_19_0 i221_8 (fun h2005 => zt_rfl) (fun h2006 => zr_5_1 i221_9 kc_1 (zr_17 i221_10 (zt_rfl)))))))))
set_option maxRecDepth 100000 in
theorem s221_11 {L : Nat} (x0 x1 : Int32) (S : zS) : zt L 221 11 [some (.inl x0), some (.inl x1)] [] S (.inr (.inl (some (.inl x1)), S, 0)) := zr_1_1 i221_11 (zr_25 i221_12)
def k221_2 (x0 : Int32) (S : zS) (j : Nat) (a : Unit) : Unit := ()
set_option maxRecDepth 100000 in
theorem l221_2 {L : Nat} (x0 : Int32) (S : zS) (i0 n : Nat) (a : Unit) (hn : i0 + n < 2147483648) (hc0 : ∀ j, j < n → ¬ ((zrem ((Int32.ofNat (i0 + j)) * x0) 257) = 1)) : zt L 221 2 [some (.inl x0), some (.inl (Int32.ofNat i0))] [] S (.inl (2, [some (.inl x0), some (.inl (Int32.ofNat (i0 + n)))], [], S)) := by
  induction n with
  | zero => exact zt_rfl
  | succ n ih =>
    have e1 := zk_ix (i0 + n) (by omega)
    have e2 := zk_add (i0 + n)
    refine zt_trans (ih (by omega) (fun j hj => hc0 j (by omega))) ?_
    refine zt_cast (s221_2 x0 (Int32.ofNat (i0 + n)) S) ?_
    rw [if_neg (show ¬ ((zrem ((Int32.ofNat (i0 + n)) * x0) 257) = 1) from (by have hg := hc0 n (by omega); first | exact hg | (simp only [e1]; exact hg)))]
    simp only [zfold, k221_2, e1, e2, ← Nat.add_assoc]
set_option maxRecDepth 100000 in
theorem j221_1 : (∀ j, j < 0 → ¬ (zrem ((Int32.ofNat (1 + j)) * 1) 257) = 1) ∧ zrem ((Int32.ofNat (1 + 0)) * 1) 257 = 1 ∧ F221 1 = Int32.ofNat (1 + 0) := by decide +kernel
set_option maxRecDepth 100000 in
theorem j221_2 : (∀ j, j < 128 → ¬ (zrem ((Int32.ofNat (1 + j)) * 2) 257) = 1) ∧ zrem ((Int32.ofNat (1 + 128)) * 2) 257 = 1 ∧ F221 2 = Int32.ofNat (1 + 128) := by decide +kernel
set_option maxRecDepth 100000 in
theorem j221_3 : (∀ j, j < 85 → ¬ (zrem ((Int32.ofNat (1 + j)) * 3) 257) = 1) ∧ zrem ((Int32.ofNat (1 + 85)) * 3) 257 = 1 ∧ F221 3 = Int32.ofNat (1 + 85) := by decide +kernel
set_option maxRecDepth 100000 in
theorem j221_4 : (∀ j, j < 192 → ¬ (zrem ((Int32.ofNat (1 + j)) * 4) 257) = 1) ∧ zrem ((Int32.ofNat (1 + 192)) * 4) 257 = 1 ∧ F221 4 = Int32.ofNat (1 + 192) := by decide +kernel
set_option maxRecDepth 100000 in
theorem j221_5 : (∀ j, j < 102 → ¬ (zrem ((Int32.ofNat (1 + j)) * 5) 257) = 1) ∧ zrem ((Int32.ofNat (1 + 102)) * 5) 257 = 1 ∧ F221 5 = Int32.ofNat (1 + 102) := by decide +kernel
set_option maxRecDepth 100000 in
theorem j221_252 : (∀ j, j < 153 → ¬ (zrem ((Int32.ofNat (1 + j)) * 252) 257) = 1) ∧ zrem ((Int32.ofNat (1 + 153)) * 252) 257 = 1 ∧ F221 252 = Int32.ofNat (1 + 153) := by decide +kernel
set_option maxRecDepth 100000 in
theorem j221_253 : (∀ j, j < 63 → ¬ (zrem ((Int32.ofNat (1 + j)) * 253) 257) = 1) ∧ zrem ((Int32.ofNat (1 + 63)) * 253) 257 = 1 ∧ F221 253 = Int32.ofNat (1 + 63) := by decide +kernel
set_option maxRecDepth 100000 in
theorem j221_254 : (∀ j, j < 170 → ¬ (zrem ((Int32.ofNat (1 + j)) * 254) 257) = 1) ∧ zrem ((Int32.ofNat (1 + 170)) * 254) 257 = 1 ∧ F221 254 = Int32.ofNat (1 + 170) := by decide +kernel
set_option maxRecDepth 100000 in
theorem j221_255 : (∀ j, j < 127 → ¬ (zrem ((Int32.ofNat (1 + j)) * 255) 257) = 1) ∧ zrem ((Int32.ofNat (1 + 127)) * 255) 257 = 1 ∧ F221 255 = Int32.ofNat (1 + 127) := by decide +kernel
set_option maxRecDepth 100000 in
theorem j221_256 : (∀ j, j < 255 → ¬ (zrem ((Int32.ofNat (1 + j)) * 256) 257) = 1) ∧ zrem ((Int32.ofNat (1 + 255)) * 256) 257 = 1 ∧ F221 256 = Int32.ofNat (1 + 255) := by decide +kernel
set_option maxRecDepth 100000 in
theorem f221 {L : Nat} (a : Int32) (S : zS) (g0 : zinv a) : zf L 221 [.inl a] S (.inl (some (.inl (F221 a))), S, 0) := by
  have key : ∀ n, n ≤ 255 → (∀ j, j < n → ¬ (zrem ((Int32.ofNat (1 + j)) * a) 257) = 1) ∧ zrem ((Int32.ofNat (1 + n)) * a) 257 = 1 ∧ F221 a = Int32.ofNat (1 + n) → zf L 221 [.inl a] S (.inl (some (.inl (F221 a))), S, 0) := by
    intro n hn ⟨h1, h2, h3⟩
    refine zf_of (en_221 _) (zt_trans (s221_e a S) (zt_trans (l221_2 a S 1 n () (by omega) h1) ?_))
    refine zt_trans (zt_cast (s221_2 a (Int32.ofNat (1 + n)) S) (if_pos h2)) ?_
    rw [h3]
    exact s221_11 a _ S
  rcases g0 with rfl | rfl | rfl | rfl | rfl | rfl | rfl | rfl | rfl | rfl
  · exact key 0 (by decide) j221_1
  · exact key 128 (by decide) j221_2
  · exact key 85 (by decide) j221_3
  · exact key 192 (by decide) j221_4
  · exact key 102 (by decide) j221_5
  · exact key 153 (by decide) j221_252
  · exact key 63 (by decide) j221_253
  · exact key 170 (by decide) j221_254
  · exact key 127 (by decide) j221_255
  · exact key 255 (by decide) j221_256
