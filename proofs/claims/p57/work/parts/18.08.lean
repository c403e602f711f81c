/-! the methods with loops, and what calls them (wip/p57/gen/gen18.py) -/
theorem i184_0 : zi 184 0 1 1 1 0 := by decide +kernel
theorem i184_1 : zi 184 1 2 0 0 1 := by decide +kernel
theorem i184_2 : zi 184 2 3 0 0 50 := by decide +kernel
theorem i184_3 : zi 184 3 4 22 188 0 := by decide +kernel
theorem i184_4 : zi 184 4 5 22 186 0 := by decide +kernel
theorem i184_5 : zi 184 5 6 0 0 0 := by decide +kernel
theorem i184_6 : zi 184 6 7 3 2 0 := by decide +kernel
theorem th_184 : (z_th 184).isEmpty = true := by decide +kernel
theorem i184_7 : zi 184 7 8 1 2 0 := by decide +kernel
theorem i184_8 : zi 184 8 9 1 1 0 := by decide +kernel
theorem i184_9 : zi 184 9 10 19 14 3 := by decide +kernel
theorem i184_10 : zi 184 10 11 2 0 0 := by decide +kernel
theorem i184_11 : zi 184 11 12 21 210 11 := by decide +kernel
theorem na_210 : z_na 210 = 0 := by decide +kernel
theorem i184_12 : zi 184 12 13 5 2 1 := by decide +kernel
theorem i184_13 : zi 184 13 14 17 7 0 := by decide +kernel
theorem i184_14 : zi 184 14 15 2 0 0 := by decide +kernel
theorem i184_15 : zi 184 15 16 6 11 11 := by decide +kernel
theorem i184_16 : zi 184 16 17 25 0 0 := by decide +kernel
theorem ml_184 : z_ml 184 = 3 := by decide +kernel
theorem en_184 : ∀ (v0 v1 : zV), z_ent 184 [v0, v1] = [some v0, some v1, none] := fun v0 v1 => by unfold z_ent; rw [ml_184]; rfl
set_option maxRecDepth 100000 in
theorem s184_7 {L : Nat} (x1 x2 : Int32) (S : zS) (g0 : zn 40 (S 5 0)) (g1 : zn 40 (S 6 0)) (g2 : zA 40 40 (S 41)) (g3 : zA 40 3 (S 43)) : zt L 184 7 [some (.inr (.inr 0)), some (.inl x1), some (.inl x2)] [] S (if (x1 ≤ x2) then (.inl (14, [some (.inr (.inr 0)), some (.inl x1), some (.inl x2)], [], S)) else (.inl (7, [some (.inr (.inr 0)), some (.inl x1), some (.inl (x2 + 1))], [], (G210 S)))) := zr_1_2 i184_7 (zr_1_1 i184_8 (zr_19_3 i184_9 (fun h1504 => zt_rfl) (fun h1505 => zr_2_0 i184_10 (zr_cn (zs_21_0 i184_11 na_210 ob_0 rfl) (f210  S (g0) (g1) (g2) (g3)) (zr_5_2 i184_12 kc_1 (zr_17 i184_13 (zt_rfl)))))))
def k184_7 (x1 : Int32) (j : Nat) (a : zS) : zS := (G210 a)
set_option maxRecDepth 100000 in
theorem l184_7 {L : Nat} (x1 : Int32) (i0 n : Nat) (a : zS) (hn : i0 + n < 2147483648) (hc0 : ∀ j, j < n → ¬ (x1 ≤ (Int32.ofNat (i0 + j)))) (g0 : ∀ j, j < n → zn 40 ((zfold (k184_7 x1 ) i0 j a) 5 0)) (g1 : ∀ j, j < n → zn 40 ((zfold (k184_7 x1 ) i0 j a) 6 0)) (g2 : ∀ j, j < n → zA 40 40 ((zfold (k184_7 x1 ) i0 j a) 41)) (g3 : ∀ j, j < n → zA 40 3 ((zfold (k184_7 x1 ) i0 j a) 43)) : zt L 184 7 [some (.inr (.inr 0)), some (.inl x1), some (.inl (Int32.ofNat i0))] [] a (.inl (7, [some (.inr (.inr 0)), some (.inl x1), some (.inl (Int32.ofNat (i0 + n)))], [], (zfold (k184_7 x1 ) i0 n a))) := by
  induction n with
  | zero => exact zt_rfl
  | succ n ih =>
    have e1 := zk_ix (i0 + n) (by omega)
    have e2 := zk_add (i0 + n)
    refine zt_trans (ih (by omega) (fun j hj => hc0 j (by omega)) (fun j hj => g0 j (by omega)) (fun j hj => g1 j (by omega)) (fun j hj => g2 j (by omega)) (fun j hj => g3 j (by omega))) ?_
    refine zt_cast (s184_7 x1 (Int32.ofNat (i0 + n)) (zfold (k184_7 x1 ) i0 n a) (by have hg := g0 n (by omega); first | exact hg | (simp only [e1]; exact hg)) (by have hg := g1 n (by omega); first | exact hg | (simp only [e1]; exact hg)) (by have hg := g2 n (by omega); first | exact hg | (simp only [e1]; exact hg)) (by have hg := g3 n (by omega); first | exact hg | (simp only [e1]; exact hg))) ?_
    rw [if_neg (show ¬ (x1 ≤ (Int32.ofNat (i0 + n))) from (by have hg := hc0 n (by omega); first | exact hg | (simp only [e1]; exact hg)))]
    simp only [zfold, k184_7, e1, e2, ← Nat.add_assoc]
set_option maxRecDepth 100000 in
theorem w_K57_2_S_41 (i0 : Nat) (S : zS) : K57_2_S  i0 S 41 = S 41 := zfold_keep (f := (k57_2 )) (fun (b : zS) => b 41) ((fun j b => by unfold k57_2; exact (show (if ((b 48 j) = 0) then (z_up (z_up b 49 j ((b 49 j) - (b 50 j))) 50 j 0) else b) 41 = b 41 from (zite_k ((zupc rfl).trans (zupc rfl)) rfl)))) _ _
set_option maxRecDepth 100000 in
theorem w_K56_2_S_41 (x1 : Int32) (i0 : Nat) (S : zS) : K56_2_S x1 i0 S 41 = S 41 := zfold_keep (f := (k56_2 x1 )) (fun (b : zS) => b 41) ((fun j b => by unfold k56_2; exact (show (if ((b 46 j) = 1) then (if (x1 ≤ (b 44 j)) then b else (G60 (Int32.ofNat j) b)) else b) 41 = b 41 from (zite_k (zite_k rfl (w_G60_41 _ _)) rfl)))) _ _
set_option maxRecDepth 100000 in
theorem w_K55_2_S_41 (x1 : Int32) (i0 : Nat) (S : zS) : K55_2_S x1 i0 S 41 = S 41 := zfold_keep (f := (k55_2 x1 )) (fun (b : zS) => b 41) ((fun j b => by unfold k55_2; exact (show (if ((b 46 j) = 0) then (if ((b 44 j) = x1) then (G60 (Int32.ofNat j) (z_up b 44 j x1)) else b) else b) 41 = b 41 from (zite_k (zite_k ((w_G60_41 _ _).trans (zupc rfl)) rfl) rfl)))) _ _
set_option maxRecDepth 100000 in
theorem w_K210_11_S_41 (i0 : Nat) (S : zS) : K210_11_S  i0 S 41 = S 41 := zfold_keep (f := (k210_11 )) (fun (b : zS) => b 41) ((fun j b => by unfold k210_11; exact (show (if ((b 40 j) = 0) then (if ((b 34 j) = (b 0 11)) then (G200 (Int32.ofNat j) b) else b) else b) 41 = b 41 from (zite_k (zite_k (w_G200_41 _ _) rfl) rfl)))) _ _
set_option maxRecDepth 100000 in
theorem w_G210_41 (S : zS) : G210 S 41 = S 41 := (show (K57_2_S 0 (K56_2_S ((K55_2_S ((K210_11_S 0 (K13_2_S 0 (z_up S 0 11 ((S 0 11) + 1)))) 0 11) 0 (K210_11_S 0 (K13_2_S 0 (z_up S 0 11 ((S 0 11) + 1))))) 0 11) 0 (K55_2_S ((K210_11_S 0 (K13_2_S 0 (z_up S 0 11 ((S 0 11) + 1)))) 0 11) 0 (K210_11_S 0 (K13_2_S 0 (z_up S 0 11 ((S 0 11) + 1))))))) 41 = S 41 from ((w_K57_2_S_41 _ _).trans ((w_K56_2_S_41 _ _ _).trans ((w_K55_2_S_41 _ _ _).trans ((w_K210_11_S_41 _ _).trans ((w_K13_2_S_41 _ _).trans (zupc rfl)))))))
set_option maxRecDepth 100000 in
theorem w_K57_2_S_43 (i0 : Nat) (S : zS) : K57_2_S  i0 S 43 = S 43 := zfold_keep (f := (k57_2 )) (fun (b : zS) => b 43) ((fun j b => by unfold k57_2; exact (show (if ((b 48 j) = 0) then (z_up (z_up b 49 j ((b 49 j) - (b 50 j))) 50 j 0) else b) 43 = b 43 from (zite_k ((zupc rfl).trans (zupc rfl)) rfl)))) _ _
set_option maxRecDepth 100000 in
theorem w_K56_2_S_43 (x1 : Int32) (i0 : Nat) (S : zS) : K56_2_S x1 i0 S 43 = S 43 := zfold_keep (f := (k56_2 x1 )) (fun (b : zS) => b 43) ((fun j b => by unfold k56_2; exact (show (if ((b 46 j) = 1) then (if (x1 ≤ (b 44 j)) then b else (G60 (Int32.ofNat j) b)) else b) 43 = b 43 from (zite_k (zite_k rfl (w_G60_43 _ _)) rfl)))) _ _
set_option maxRecDepth 100000 in
theorem w_G210_43 (S : zS) : G210 S 43 = S 43 := (show (K57_2_S 0 (K56_2_S ((K55_2_S ((K210_11_S 0 (K13_2_S 0 (z_up S 0 11 ((S 0 11) + 1)))) 0 11) 0 (K210_11_S 0 (K13_2_S 0 (z_up S 0 11 ((S 0 11) + 1))))) 0 11) 0 (K55_2_S ((K210_11_S 0 (K13_2_S 0 (z_up S 0 11 ((S 0 11) + 1)))) 0 11) 0 (K210_11_S 0 (K13_2_S 0 (z_up S 0 11 ((S 0 11) + 1))))))) 43 = S 43 from ((w_K57_2_S_43 _ _).trans ((w_K56_2_S_43 _ _ _).trans ((w_K55_2_S_43 _ _ _).trans ((w_K210_11_S_43 _ _).trans ((w_K13_2_S_43 _ _).trans (zupc rfl)))))))
set_option maxRecDepth 100000 in
theorem w_K57_2_S_5_0 (i0 : Nat) (S : zS) : K57_2_S  i0 S 5 0 = S 5 0 := zfold_keep (f := (k57_2 )) (fun (b : zS) => b 5 0) ((fun j b => by unfold k57_2; exact (show (if ((b 48 j) = 0) then (z_up (z_up b 49 j ((b 49 j) - (b 50 j))) 50 j 0) else b) 5 0 = b 5 0 from (zite_rd ((zupci rfl).trans (zupci rfl)) rfl)))) _ _
set_option maxRecDepth 100000 in
theorem w_K56_2_S_5_0 (x1 : Int32) (i0 : Nat) (S : zS) : K56_2_S x1 i0 S 5 0 = S 5 0 := zfold_keep (f := (k56_2 x1 )) (fun (b : zS) => b 5 0) ((fun j b => by unfold k56_2; exact (show (if ((b 46 j) = 1) then (if (x1 ≤ (b 44 j)) then b else (G60 (Int32.ofNat j) b)) else b) 5 0 = b 5 0 from (zite_rd (zite_rd rfl (w_G60_5_0 _ _)) rfl)))) _ _
set_option maxRecDepth 100000 in
theorem w_K55_2_S_5_0 (x1 : Int32) (i0 : Nat) (S : zS) : K55_2_S x1 i0 S 5 0 = S 5 0 := zfold_keep (f := (k55_2 x1 )) (fun (b : zS) => b 5 0) ((fun j b => by unfold k55_2; exact (show (if ((b 46 j) = 0) then (if ((b 44 j) = x1) then (G60 (Int32.ofNat j) (z_up b 44 j x1)) else b) else b) 5 0 = b 5 0 from (zite_rd (zite_rd ((w_G60_5_0 _ _).trans (zupci rfl)) rfl) rfl)))) _ _
set_option maxRecDepth 100000 in
theorem w_K210_11_S_5_0 (i0 : Nat) (S : zS) : K210_11_S  i0 S 5 0 = S 5 0 := zfold_keep (f := (k210_11 )) (fun (b : zS) => b 5 0) ((fun j b => by unfold k210_11; exact (show (if ((b 40 j) = 0) then (if ((b 34 j) = (b 0 11)) then (G200 (Int32.ofNat j) b) else b) else b) 5 0 = b 5 0 from (zite_rd (zite_rd (w_G200_5_0 _ _) rfl) rfl)))) _ _
set_option maxRecDepth 100000 in
theorem w_G210_5_0 (S : zS) : G210 S 5 0 = S 5 0 := (show (K57_2_S 0 (K56_2_S ((K55_2_S ((K210_11_S 0 (K13_2_S 0 (z_up S 0 11 ((S 0 11) + 1)))) 0 11) 0 (K210_11_S 0 (K13_2_S 0 (z_up S 0 11 ((S 0 11) + 1))))) 0 11) 0 (K55_2_S ((K210_11_S 0 (K13_2_S 0 (z_up S 0 11 ((S 0 11) + 1)))) 0 11) 0 (K210_11_S 0 (K13_2_S 0 (z_up S 0 11 ((S 0 11) + 1))))))) 5 0 = S 5 0 from ((w_K57_2_S_5_0 _ _).trans ((w_K56_2_S_5_0 _ _ _).trans ((w_K55_2_S_5_0 _ _ _).trans ((w_K210_11_S_5_0 _ _).trans ((w_K13_2_S_5_0 _ _).trans (zupci rfl)))))))
set_option maxRecDepth 100000 in
theorem w_K57_2_S_6_0 (i0 : Nat) (S : zS) : K57_2_S  i0 S 6 0 = S 6 0 := zfold_keep (f := (k57_2 )) (fun (b : zS) => b 6 0) ((fun j b => by unfold k57_2; exact (show (if ((b 48 j) = 0) then (z_up (z_up b 49 j ((b 49 j) - (b 50 j))) 50 j 0) else b) 6 0 = b 6 0 from (zite_rd ((zupci rfl).trans (zupci rfl)) rfl)))) _ _
set_option maxRecDepth 100000 in
theorem w_K56_2_S_6_0 (x1 : Int32) (i0 : Nat) (S : zS) : K56_2_S x1 i0 S 6 0 = S 6 0 := zfold_keep (f := (k56_2 x1 )) (fun (b : zS) => b 6 0) ((fun j b => by unfold k56_2; exact (show (if ((b 46 j) = 1) then (if (x1 ≤ (b 44 j)) then b else (G60 (Int32.ofNat j) b)) else b) 6 0 = b 6 0 from (zite_rd (zite_rd rfl (w_G60_6_0 _ _)) rfl)))) _ _
set_option maxRecDepth 100000 in
theorem w_G210_6_0 (S : zS) : G210 S 6 0 = S 6 0 := (show (K57_2_S 0 (K56_2_S ((K55_2_S ((K210_11_S 0 (K13_2_S 0 (z_up S 0 11 ((S 0 11) + 1)))) 0 11) 0 (K210_11_S 0 (K13_2_S 0 (z_up S 0 11 ((S 0 11) + 1))))) 0 11) 0 (K55_2_S ((K210_11_S 0 (K13_2_S 0 (z_up S 0 11 ((S 0 11) + 1)))) 0 11) 0 (K210_11_S 0 (K13_2_S 0 (z_up S 0 11 ((S 0 11) + 1))))))) 6 0 = S 6 0 from ((w_K57_2_S_6_0 _ _).trans ((w_K56_2_S_6_0 _ _ _).trans ((w_K55_2_S_6_0 _ _ _).trans ((w_K210_11_S_6_0 _ _).trans ((w_K13_2_S_6_0 _ _).trans (zupci rfl)))))))
def K184_7 (x1 : Int32) (i0 : Nat) (S : zS) : zS := zfold (k184_7 x1 ) i0 (x1.toNatClampNeg - i0) S
def K184_7_S (x1 : Int32) (i0 : Nat) (S : zS) : zS := (K184_7 x1 i0 S)
set_option maxRecDepth 100000 in
theorem L184_7 {L : Nat} (x1 : Int32) (i0 : Nat) (S : zS) (hi : i0 ≤ 10000) (h0 : zn 600 x1) (hz1 : zn 40 (S 5 0)) (hz2 : zn 40 (S 6 0)) (hp3 : zA 40 40 (S 41)) (hp4 : zA 40 3 (S 43)) : zt L 184 7 [some (.inr (.inr 0)), some (.inl x1), some (.inl (Int32.ofNat i0))] [] S (.inl (14, [some (.inr (.inr 0)), some (.inl x1), some (.inl (Int32.ofNat (i0 + (x1.toNatClampNeg - i0))))], [], (K184_7_S x1 i0 S))) := by
  have hk41 : ∀ n, (zfold (k184_7 x1 ) i0 n S) 41 = S 41 := fun n => zfold_keep (f := (k184_7 x1 )) (fun (b : zS) => b 41) (fun j b => by unfold k184_7; exact (show (G210 b) 41 = b 41 from (w_G210_41 _))) n S
  have hk43 : ∀ n, (zfold (k184_7 x1 ) i0 n S) 43 = S 43 := fun n => zfold_keep (f := (k184_7 x1 )) (fun (b : zS) => b 43) (fun j b => by unfold k184_7; exact (show (G210 b) 43 = b 43 from (w_G210_43 _))) n S
  have hk5_0 : ∀ n, (zfold (k184_7 x1 ) i0 n S) 5 0 = S 5 0 := fun n => zfold_keep (f := (k184_7 x1 )) (fun (b : zS) => b 5 0) (fun j b => by unfold k184_7; exact (show (G210 b) 5 0 = b 5 0 from (w_G210_5_0 _))) n S
  have hk6_0 : ∀ n, (zfold (k184_7 x1 ) i0 n S) 6 0 = S 6 0 := fun n => zfold_keep (f := (k184_7 x1 )) (fun (b : zS) => b 6 0) (fun j b => by unfold k184_7; exact (show (G210 b) 6 0 = b 6 0 from (w_G210_6_0 _))) n S
  have hend : x1 ≤ Int32.ofNat (i0 + (x1.toNatClampNeg - i0)) := by exact zc_le_end h0 (by omega)
  refine zt_trans (l184_7 x1   i0 (x1.toNatClampNeg - i0) S (by have := zn_cl h0; omega) (fun j hj => by exact zc_le h0 hj (by omega)) (fun j hj  => by rw [hk5_0 j]; exact hz1) (fun j hj  => by rw [hk6_0 j]; exact hz2) (fun j hj  => by exact zpc1 (hk41 j) hp3) (fun j hj  => by exact zpc1 (hk43 j) hp4)) ?_
  exact zt_cast (s184_7 x1 (Int32.ofNat (i0 + (x1.toNatClampNeg - i0))) (zfold (k184_7 x1 ) i0 (x1.toNatClampNeg - i0) S) (by rw [hk5_0 _]; exact hz1) (by rw [hk6_0 _]; exact hz2) (by exact zpc1 (hk41 _) hp3) (by exact zpc1 (hk43 _) hp4)) (if_pos hend)
set_option maxRecDepth 100000 in
theorem f184 {L : Nat} (a : Int32) (S : zS) (g0 : ((¬ (a < 1)) ∧ (¬ (50 < a))) → zn 600 a) (g1 : zn 40 (S 5 0)) (g2 : zn 40 (S 6 0)) (g3 : zA 40 40 (S 41)) (g4 : zA 40 3 (S 43)) : zf L 184 [.inr (.inr 0), .inl a] S (if ((¬ (a < 1)) ∧ (¬ (50 < a))) then (.inl (some (.inl ((K184_7_S a 0 S) 0 11))), (K184_7_S a 0 S), 0) else (.inr 1, S, 1)) := zf_of (en_184 _ _) (zr_1_1 i184_0 (zr_0 i184_1 kc_1 (zr_0 i184_2 kc_50 (zr_cv (zs_22_3 i184_3 na_188 rfl) (f188 a 1 50 S ) (zt_cast (zr_dem (E := 1) (zs_22_1 i184_4 na_186 rfl) f186 th_184 (fun h1506 => zr_0 i184_5 kc_0 (zr_3_2 i184_6 (zt_trans (L184_7 a 0 S (by decide) (g0 h1506) (g1) (g2) (g3) (g4)) (zr_2_0 i184_14 (zr_6 i184_15 fl_0_11 rfl (zr_25 i184_16))))))) zm_o)))))
