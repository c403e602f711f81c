/-! the methods with loops, and what calls them (wip/whole/gen/gen18.py) -/
theorem i321_0 : zi 321 0 1 2 0 0 := by decide +kernel
theorem i321_1 : zi 321 1 2 1 1 0 := by decide +kernel
theorem i321_2 : zi 321 2 3 0 0 1 := by decide +kernel
theorem i321_3 : zi 321 3 4 0 0 50 := by decide +kernel
theorem i321_4 : zi 321 4 5 22 213 0 := by decide +kernel
theorem i321_5 : zi 321 5 6 18 8 0 := by decide +kernel
theorem i321_6 : zi 321 6 7 0 0 0 := by decide +kernel
theorem i321_7 : zi 321 7 8 17 9 0 := by decide +kernel
theorem i321_8 : zi 321 8 9 0 0 1 := by decide +kernel
theorem i321_9 : zi 321 9 10 21 212 12 := by decide +kernel
theorem i321_10 : zi 321 10 11 18 13 1 := by decide +kernel
theorem i321_13 : zi 321 13 14 0 0 0 := by decide +kernel
theorem i321_14 : zi 321 14 15 3 2 0 := by decide +kernel
theorem i321_11 : zi 321 11 12 0 0 0 := by decide +kernel
theorem i321_12 : zi 321 12 13 25 0 0 := by decide +kernel
theorem i321_15 : zi 321 15 16 1 2 0 := by decide +kernel
theorem i321_16 : zi 321 16 17 1 1 0 := by decide +kernel
theorem i321_17 : zi 321 17 18 19 22 3 := by decide +kernel
theorem i321_18 : zi 321 18 19 2 0 0 := by decide +kernel
theorem i321_19 : zi 321 19 20 21 320 12 := by decide +kernel
theorem na_320 : z_na 320 = 0 := by decide +kernel
theorem i321_20 : zi 321 20 21 5 2 1 := by decide +kernel
theorem i321_21 : zi 321 21 22 17 15 0 := by decide +kernel
theorem i321_22 : zi 321 22 23 2 0 0 := by decide +kernel
theorem i321_23 : zi 321 23 24 6 12 1 := by decide +kernel
theorem i321_24 : zi 321 24 25 25 0 0 := by decide +kernel
theorem ml_321 : z_ml 321 = 3 := by decide +kernel
theorem en_321 : ∀ (v0 v1 : zV), z_ent 321 [v0, v1] = [some v0, some v1, none] := fun v0 v1 => by unfold z_ent; rw [ml_321]; rfl
set_option maxRecDepth 100000 in
theorem s321_15 {L : Nat} (x1 x2 : Int32) (S : zS) (g0 : zn 40 (S 13 45)) (g1 : zPa 40 40 (S 110)) (g2 : zn 40 (S 13 57)) (g3 : zA 40 40 (S 120)) (g4 : zA 40 3 (S 122)) : zt L 321 15 [some (.inr (.inr 13)), some (.inl x1), some (.inl x2)] [] S (if (x1 ≤ x2) then (.inl (22, [some (.inr (.inr 13)), some (.inl x1), some (.inl x2)], [], S)) else (.inl (15, [some (.inr (.inr 13)), some (.inl x1), some (.inl (x2 + 1))], [], (G320 S)))) := zr_1_2 i321_15 (zr_1_1 i321_16 (zr_19_3 i321_17 (fun h3833 => zt_rfl) (fun h3834 => zr_2_0 i321_18 (zr_cn (zs_21_0 i321_19 na_320 ob_13 rfl) (f320  S (g0) (g1) (g2) (g3) (g4)) (zr_5_2 i321_20 kc_1 (zr_17 i321_21 (zt_rfl)))))))
def k321_15 (x1 : Int32) (j : Nat) (a : zS) : zS := (G320 a)
set_option maxRecDepth 100000 in
theorem l321_15 {L : Nat} (x1 : Int32) (i0 n : Nat) (a : zS) (hn : i0 + n < 2147483648) (hc0 : ∀ j, j < n → ¬ (x1 ≤ (Int32.ofNat (i0 + j)))) (g0 : ∀ j, j < n → zn 40 ((zfold (k321_15 x1 ) i0 j a) 13 45)) (g1 : ∀ j, j < n → zPa 40 40 ((zfold (k321_15 x1 ) i0 j a) 110)) (g2 : ∀ j, j < n → zn 40 ((zfold (k321_15 x1 ) i0 j a) 13 57)) (g3 : ∀ j, j < n → zA 40 40 ((zfold (k321_15 x1 ) i0 j a) 120)) (g4 : ∀ j, j < n → zA 40 3 ((zfold (k321_15 x1 ) i0 j a) 122)) : zt L 321 15 [some (.inr (.inr 13)), some (.inl x1), some (.inl (Int32.ofNat i0))] [] a (.inl (15, [some (.inr (.inr 13)), some (.inl x1), some (.inl (Int32.ofNat (i0 + n)))], [], (zfold (k321_15 x1 ) i0 n a))) := by
  induction n with
  | zero => exact zt_rfl
  | succ n ih =>
    have e1 := zk_ix (i0 + n) (by omega)
    have e2 := zk_add (i0 + n)
    refine zt_trans (ih (by omega) (fun j hj => hc0 j (by omega)) (fun j hj => g0 j (by omega)) (fun j hj => g1 j (by omega)) (fun j hj => g2 j (by omega)) (fun j hj => g3 j (by omega)) (fun j hj => g4 j (by omega))) ?_
    refine zt_cast (s321_15 x1 (Int32.ofNat (i0 + n)) (zfold (k321_15 x1 ) i0 n a) (by have hg := g0 n (by omega); first | exact hg | (simp only [e1]; exact hg)) (by have hg := g1 n (by omega); first | exact hg | (simp only [e1]; exact hg)) (by have hg := g2 n (by omega); first | exact hg | (simp only [e1]; exact hg)) (by have hg := g3 n (by omega); first | exact hg | (simp only [e1]; exact hg)) (by have hg := g4 n (by omega); first | exact hg | (simp only [e1]; exact hg))) ?_
    rw [if_neg (show ¬ (x1 ≤ (Int32.ofNat (i0 + n))) from (by have hg := hc0 n (by omega); first | exact hg | (simp only [e1]; exact hg)))]
    simp only [zfold, k321_15, e1, e2, ← Nat.add_assoc]
set_option maxRecDepth 100000 in
theorem w_K320_91_S_110 (u2 : Option zV) (i0 : Nat) (S : zS) : K320_91_S u2 i0 S 110 = S 110 := zfold_keep (f := (k320_91 )) (fun (b : Option zV × zS) => b.2 110) ((fun j b => by unfold k320_91; exact (show (z_up (z_up b.2 128 j ((b.2 128 j) - (if ((b.2 127 j) = 0) then ((b.2 129 j) : Int32) else 0))) 129 j (if ((b.2 127 j) = 0) then (0 : Int32) else (b.2 129 j))) 110 = b.2 110 from ((zupc rfl).trans (zupc rfl))))) _ _
set_option maxRecDepth 100000 in
theorem w_K320_67_S_110 (u2 : Option zV) (i0 : Nat) (S : zS) : K320_67_S u2 i0 S 110 = S 110 := zfold_keep (f := (k320_67 )) (fun (b : zS) => b 110) ((fun j b => by unfold k320_67; exact (show (if ((b 125 j) = 1) then (if ((b 13 1) ≤ (b 123 j)) then b else (G269 (Int32.ofNat j) b)) else b) 110 = b 110 from (zite_k (zite_k rfl (w_G269_110 _ _)) rfl)))) _ _
set_option maxRecDepth 100000 in
theorem w_K320_44_S_110 (u2 : Option zV) (i0 : Nat) (S : zS) : K320_44_S u2 i0 S 110 = S 110 := zfold_keep (f := (k320_44 )) (fun (b : zS) => b 110) ((fun j b => by unfold k320_44; exact (show (if ((b 125 j) = 0) then (if ((b 123 j) = (b 13 1)) then (G269 (Int32.ofNat j) (z_up (z_up b 123 j (b 13 1)) 126 j 0)) else b) else b) 110 = b 110 from (zite_k (zite_k ((w_G269_110 _ _).trans ((zupc rfl).trans (zupc rfl))) rfl) rfl)))) _ _
set_option maxRecDepth 100000 in
theorem w_K320_20_S_110 (u2 : Option zV) (i0 : Nat) (S : zS) : K320_20_S u2 i0 S 110 = S 110 := zfold_keep (f := (k320_20 )) (fun (b : Option zV × zS) => b.2 110) ((fun j b => by unfold k320_20; exact (show (if ((b.2 119 j) = 0) then (if ((b.2 113 j) = (b.2 13 1)) then (G264 (Int32.ofNat j) b.2) else b.2) else b.2) 110 = b.2 110 from (zite_k (zite_k (w_G264_110 _ _) rfl) rfl)))) _ _
set_option maxRecDepth 100000 in
theorem w_G320_110 (S : zS) : G320 S 110 = S 110 := (show (K320_91_S (K320_20_c2 (none : Option zV) 0 (K320_8_S 0 (z_up S 13 1 ((S 13 1) + 1)))) 0 (K320_67_S (K320_20_c2 (none : Option zV) 0 (K320_8_S 0 (z_up S 13 1 ((S 13 1) + 1)))) 0 (K320_44_S (K320_20_c2 (none : Option zV) 0 (K320_8_S 0 (z_up S 13 1 ((S 13 1) + 1)))) 0 (K320_20_S (none : Option zV) 0 (K320_8_S 0 (z_up S 13 1 ((S 13 1) + 1))))))) 110 = S 110 from ((w_K320_91_S_110 _ _ _).trans ((w_K320_67_S_110 _ _ _).trans ((w_K320_44_S_110 _ _ _).trans ((w_K320_20_S_110 _ _ _).trans ((w_K320_8_S_110 _ _).trans (zupc rfl)))))))
set_option maxRecDepth 100000 in
theorem w_K320_91_S_120 (u2 : Option zV) (i0 : Nat) (S : zS) : K320_91_S u2 i0 S 120 = S 120 := zfold_keep (f := (k320_91 )) (fun (b : Option zV × zS) => b.2 120) ((fun j b => by unfold k320_91; exact (show (z_up (z_up b.2 128 j ((b.2 128 j) - (if ((b.2 127 j) = 0) then ((b.2 129 j) : Int32) else 0))) 129 j (if ((b.2 127 j) = 0) then (0 : Int32) else (b.2 129 j))) 120 = b.2 120 from ((zupc rfl).trans (zupc rfl))))) _ _
set_option maxRecDepth 100000 in
theorem w_K320_67_S_120 (u2 : Option zV) (i0 : Nat) (S : zS) : K320_67_S u2 i0 S 120 = S 120 := zfold_keep (f := (k320_67 )) (fun (b : zS) => b 120) ((fun j b => by unfold k320_67; exact (show (if ((b 125 j) = 1) then (if ((b 13 1) ≤ (b 123 j)) then b else (G269 (Int32.ofNat j) b)) else b) 120 = b 120 from (zite_k (zite_k rfl (w_G269_120 _ _)) rfl)))) _ _
set_option maxRecDepth 100000 in
theorem w_K320_44_S_120 (u2 : Option zV) (i0 : Nat) (S : zS) : K320_44_S u2 i0 S 120 = S 120 := zfold_keep (f := (k320_44 )) (fun (b : zS) => b 120) ((fun j b => by unfold k320_44; exact (show (if ((b 125 j) = 0) then (if ((b 123 j) = (b 13 1)) then (G269 (Int32.ofNat j) (z_up (z_up b 123 j (b 13 1)) 126 j 0)) else b) else b) 120 = b 120 from (zite_k (zite_k ((w_G269_120 _ _).trans ((zupc rfl).trans (zupc rfl))) rfl) rfl)))) _ _
set_option maxRecDepth 100000 in
theorem w_K320_20_S_120 (u2 : Option zV) (i0 : Nat) (S : zS) : K320_20_S u2 i0 S 120 = S 120 := zfold_keep (f := (k320_20 )) (fun (b : Option zV × zS) => b.2 120) ((fun j b => by unfold k320_20; exact (show (if ((b.2 119 j) = 0) then (if ((b.2 113 j) = (b.2 13 1)) then (G264 (Int32.ofNat j) b.2) else b.2) else b.2) 120 = b.2 120 from (zite_k (zite_k (w_G264_120 _ _) rfl) rfl)))) _ _
set_option maxRecDepth 100000 in
theorem w_G320_120 (S : zS) : G320 S 120 = S 120 := (show (K320_91_S (K320_20_c2 (none : Option zV) 0 (K320_8_S 0 (z_up S 13 1 ((S 13 1) + 1)))) 0 (K320_67_S (K320_20_c2 (none : Option zV) 0 (K320_8_S 0 (z_up S 13 1 ((S 13 1) + 1)))) 0 (K320_44_S (K320_20_c2 (none : Option zV) 0 (K320_8_S 0 (z_up S 13 1 ((S 13 1) + 1)))) 0 (K320_20_S (none : Option zV) 0 (K320_8_S 0 (z_up S 13 1 ((S 13 1) + 1))))))) 120 = S 120 from ((w_K320_91_S_120 _ _ _).trans ((w_K320_67_S_120 _ _ _).trans ((w_K320_44_S_120 _ _ _).trans ((w_K320_20_S_120 _ _ _).trans ((w_K320_8_S_120 _ _).trans (zupc rfl)))))))
set_option maxRecDepth 100000 in
theorem w_K320_91_S_122 (u2 : Option zV) (i0 : Nat) (S : zS) : K320_91_S u2 i0 S 122 = S 122 := zfold_keep (f := (k320_91 )) (fun (b : Option zV × zS) => b.2 122) ((fun j b => by unfold k320_91; exact (show (z_up (z_up b.2 128 j ((b.2 128 j) - (if ((b.2 127 j) = 0) then ((b.2 129 j) : Int32) else 0))) 129 j (if ((b.2 127 j) = 0) then (0 : Int32) else (b.2 129 j))) 122 = b.2 122 from ((zupc rfl).trans (zupc rfl))))) _ _
set_option maxRecDepth 100000 in
theorem w_K320_67_S_122 (u2 : Option zV) (i0 : Nat) (S : zS) : K320_67_S u2 i0 S 122 = S 122 := zfold_keep (f := (k320_67 )) (fun (b : zS) => b 122) ((fun j b => by unfold k320_67; exact (show (if ((b 125 j) = 1) then (if ((b 13 1) ≤ (b 123 j)) then b else (G269 (Int32.ofNat j) b)) else b) 122 = b 122 from (zite_k (zite_k rfl (w_G269_122 _ _)) rfl)))) _ _
set_option maxRecDepth 100000 in
theorem w_G320_122 (S : zS) : G320 S 122 = S 122 := (show (K320_91_S (K320_20_c2 (none : Option zV) 0 (K320_8_S 0 (z_up S 13 1 ((S 13 1) + 1)))) 0 (K320_67_S (K320_20_c2 (none : Option zV) 0 (K320_8_S 0 (z_up S 13 1 ((S 13 1) + 1)))) 0 (K320_44_S (K320_20_c2 (none : Option zV) 0 (K320_8_S 0 (z_up S 13 1 ((S 13 1) + 1)))) 0 (K320_20_S (none : Option zV) 0 (K320_8_S 0 (z_up S 13 1 ((S 13 1) + 1))))))) 122 = S 122 from ((w_K320_91_S_122 _ _ _).trans ((w_K320_67_S_122 _ _ _).trans ((w_K320_44_S_122 _ _ _).trans ((w_K320_20_S_122 _ _ _).trans ((w_K320_8_S_122 _ _).trans (zupc rfl)))))))
set_option maxRecDepth 100000 in
theorem w_K320_91_S_13_45 (u2 : Option zV) (i0 : Nat) (S : zS) : K320_91_S u2 i0 S 13 45 = S 13 45 := zfold_keep (f := (k320_91 )) (fun (b : Option zV × zS) => b.2 13 45) ((fun j b => by unfold k320_91; exact (show (z_up (z_up b.2 128 j ((b.2 128 j) - (if ((b.2 127 j) = 0) then ((b.2 129 j) : Int32) else 0))) 129 j (if ((b.2 127 j) = 0) then (0 : Int32) else (b.2 129 j))) 13 45 = b.2 13 45 from ((zupci rfl).trans (zupci rfl))))) _ _
set_option maxRecDepth 100000 in
theorem w_K320_67_S_13_45 (u2 : Option zV) (i0 : Nat) (S : zS) : K320_67_S u2 i0 S 13 45 = S 13 45 := zfold_keep (f := (k320_67 )) (fun (b : zS) => b 13 45) ((fun j b => by unfold k320_67; exact (show (if ((b 125 j) = 1) then (if ((b 13 1) ≤ (b 123 j)) then b else (G269 (Int32.ofNat j) b)) else b) 13 45 = b 13 45 from (zite_rd (zite_rd rfl (w_G269_13_45 _ _)) rfl)))) _ _
set_option maxRecDepth 100000 in
theorem w_K320_44_S_13_45 (u2 : Option zV) (i0 : Nat) (S : zS) : K320_44_S u2 i0 S 13 45 = S 13 45 := zfold_keep (f := (k320_44 )) (fun (b : zS) => b 13 45) ((fun j b => by unfold k320_44; exact (show (if ((b 125 j) = 0) then (if ((b 123 j) = (b 13 1)) then (G269 (Int32.ofNat j) (z_up (z_up b 123 j (b 13 1)) 126 j 0)) else b) else b) 13 45 = b 13 45 from (zite_rd (zite_rd ((w_G269_13_45 _ _).trans ((zupci rfl).trans (zupci rfl))) rfl) rfl)))) _ _
set_option maxRecDepth 100000 in
theorem w_K320_20_S_13_45 (u2 : Option zV) (i0 : Nat) (S : zS) : K320_20_S u2 i0 S 13 45 = S 13 45 := zfold_keep (f := (k320_20 )) (fun (b : Option zV × zS) => b.2 13 45) ((fun j b => by unfold k320_20; exact (show (if ((b.2 119 j) = 0) then (if ((b.2 113 j) = (b.2 13 1)) then (G264 (Int32.ofNat j) b.2) else b.2) else b.2) 13 45 = b.2 13 45 from (zite_rd (zite_rd (w_G264_13_45 _ _) rfl) rfl)))) _ _
set_option maxRecDepth 100000 in
theorem w_G320_13_45 (S : zS) : G320 S 13 45 = S 13 45 := (show (K320_91_S (K320_20_c2 (none : Option zV) 0 (K320_8_S 0 (z_up S 13 1 ((S 13 1) + 1)))) 0 (K320_67_S (K320_20_c2 (none : Option zV) 0 (K320_8_S 0 (z_up S 13 1 ((S 13 1) + 1)))) 0 (K320_44_S (K320_20_c2 (none : Option zV) 0 (K320_8_S 0 (z_up S 13 1 ((S 13 1) + 1)))) 0 (K320_20_S (none : Option zV) 0 (K320_8_S 0 (z_up S 13 1 ((S 13 1) + 1))))))) 13 45 = S 13 45 from ((w_K320_91_S_13_45 _ _ _).trans ((w_K320_67_S_13_45 _ _ _).trans ((w_K320_44_S_13_45 _ _ _).trans ((w_K320_20_S_13_45 _ _ _).trans ((w_K320_8_S_13_45 _ _).trans (zupf rfl)))))))
set_option maxRecDepth 100000 in
theorem w_K320_91_S_13_57 (u2 : Option zV) (i0 : Nat) (S : zS) : K320_91_S u2 i0 S 13 57 = S 13 57 := zfold_keep (f := (k320_91 )) (fun (b : Option zV × zS) => b.2 13 57) ((fun j b => by unfold k320_91; exact (show (z_up (z_up b.2 128 j ((b.2 128 j) - (if ((b.2 127 j) = 0) then ((b.2 129 j) : Int32) else 0))) 129 j (if ((b.2 127 j) = 0) then (0 : Int32) else (b.2 129 j))) 13 57 = b.2 13 57 from ((zupci rfl).trans (zupci rfl))))) _ _
set_option maxRecDepth 100000 in
theorem w_K320_67_S_13_57 (u2 : Option zV) (i0 : Nat) (S : zS) : K320_67_S u2 i0 S 13 57 = S 13 57 := zfold_keep (f := (k320_67 )) (fun (b : zS) => b 13 57) ((fun j b => by unfold k320_67; exact (show (if ((b 125 j) = 1) then (if ((b 13 1) ≤ (b 123 j)) then b else (G269 (Int32.ofNat j) b)) else b) 13 57 = b 13 57 from (zite_rd (zite_rd rfl (w_G269_13_57 _ _)) rfl)))) _ _
set_option maxRecDepth 100000 in
theorem w_G320_13_57 (S : zS) : G320 S 13 57 = S 13 57 := (show (K320_91_S (K320_20_c2 (none : Option zV) 0 (K320_8_S 0 (z_up S 13 1 ((S 13 1) + 1)))) 0 (K320_67_S (K320_20_c2 (none : Option zV) 0 (K320_8_S 0 (z_up S 13 1 ((S 13 1) + 1)))) 0 (K320_44_S (K320_20_c2 (none : Option zV) 0 (K320_8_S 0 (z_up S 13 1 ((S 13 1) + 1)))) 0 (K320_20_S (none : Option zV) 0 (K320_8_S 0 (z_up S 13 1 ((S 13 1) + 1))))))) 13 57 = S 13 57 from ((w_K320_91_S_13_57 _ _ _).trans ((w_K320_67_S_13_57 _ _ _).trans ((w_K320_44_S_13_57 _ _ _).trans ((w_K320_20_S_13_57 _ _ _).trans ((w_K320_8_S_13_57 _ _).trans (zupf rfl)))))))
def K321_15 (x1 : Int32) (i0 : Nat) (S : zS) : zS := zfold (k321_15 x1 ) i0 (x1.toNatClampNeg - i0) S
def K321_15_S (x1 : Int32) (i0 : Nat) (S : zS) : zS := (K321_15 x1 i0 S)
set_option maxRecDepth 100000 in
theorem L321_15 {L : Nat} (x1 : Int32) (i0 : Nat) (S : zS) (hi : i0 ≤ 10000) (h0 : zn 600 x1) (hz1 : zn 40 (S 13 45)) (hp2 : zPa 40 40 (S 110)) (hz3 : zn 40 (S 13 57)) (hp4 : zA 40 40 (S 120)) (hp5 : zA 40 3 (S 122)) : zt L 321 15 [some (.inr (.inr 13)), some (.inl x1), some (.inl (Int32.ofNat i0))] [] S (.inl (22, [some (.inr (.inr 13)), some (.inl x1), some (.inl (Int32.ofNat (i0 + (x1.toNatClampNeg - i0))))], [], (K321_15_S x1 i0 S))) := by
  have hk110 : ∀ n, (zfold (k321_15 x1 ) i0 n S) 110 = S 110 := fun n => zfold_keep (f := (k321_15 x1 )) (fun (b : zS) => b 110) (fun j b => by unfold k321_15; exact (show (G320 b) 110 = b 110 from (w_G320_110 _))) n S
  have hk120 : ∀ n, (zfold (k321_15 x1 ) i0 n S) 120 = S 120 := fun n => zfold_keep (f := (k321_15 x1 )) (fun (b : zS) => b 120) (fun j b => by unfold k321_15; exact (show (G320 b) 120 = b 120 from (w_G320_120 _))) n S
  have hk122 : ∀ n, (zfold (k321_15 x1 ) i0 n S) 122 = S 122 := fun n => zfold_keep (f := (k321_15 x1 )) (fun (b : zS) => b 122) (fun j b => by unfold k321_15; exact (show (G320 b) 122 = b 122 from (w_G320_122 _))) n S
  have hk13_45 : ∀ n, (zfold (k321_15 x1 ) i0 n S) 13 45 = S 13 45 := fun n => zfold_keep (f := (k321_15 x1 )) (fun (b : zS) => b 13 45) (fun j b => by unfold k321_15; exact (show (G320 b) 13 45 = b 13 45 from (w_G320_13_45 _))) n S
  have hk13_57 : ∀ n, (zfold (k321_15 x1 ) i0 n S) 13 57 = S 13 57 := fun n => zfold_keep (f := (k321_15 x1 )) (fun (b : zS) => b 13 57) (fun j b => by unfold k321_15; exact (show (G320 b) 13 57 = b 13 57 from (w_G320_13_57 _))) n S
  have hend : x1 ≤ Int32.ofNat (i0 + (x1.toNatClampNeg - i0)) := by exact zc_le_end h0 (by omega)
  refine zt_trans (l321_15 x1   i0 (x1.toNatClampNeg - i0) S (by have := zn_cl h0; omega) (fun j hj => by exact zc_le h0 hj (by omega)) (fun j hj  => by rw [hk13_45 j]; exact hz1) (fun j hj  => by exact zpc1 (hk110 j) hp2) (fun j hj  => by rw [hk13_57 j]; exact hz3) (fun j hj  => by exact zpc1 (hk120 j) hp4) (fun j hj  => by exact zpc1 (hk122 j) hp5)) ?_
  exact zt_cast (s321_15 x1 (Int32.ofNat (i0 + (x1.toNatClampNeg - i0))) (zfold (k321_15 x1 ) i0 (x1.toNatClampNeg - i0) S) (by rw [hk13_45 _]; exact hz1) (by exact zpc1 (hk110 _) hp2) (by rw [hk13_57 _]; exact hz3) (by exact zpc1 (hk120 _) hp4) (by exact zpc1 (hk122 _) hp5)) (if_pos hend)
def G321 (a : Int32) (S : zS) : zS := (if ((zb (¬ ((¬ (a < 1)) ∧ (¬ (50 < a))))) = 0) then (K321_15_S a 0 (z_up S 13 0 (zb (¬ ((¬ (a < 1)) ∧ (¬ (50 < a))))))) else (z_up S 13 0 (zb (¬ ((¬ (a < 1)) ∧ (¬ (50 < a)))))))
set_option maxRecDepth 100000 in
theorem f321 {L : Nat} (a : Int32) (S : zS) (g0 : ((zb (¬ ((¬ (a < 1)) ∧ (¬ (50 < a))))) = 0) → zn 600 a) (g1 : zn 40 (S 13 45)) (g2 : zPa 40 40 (S 110)) (g3 : zn 40 (S 13 57)) (g4 : zA 40 40 (S 120)) (g5 : zA 40 3 (S 122)) : zf L 321 [.inr (.inr 13), .inl a] S (.inl (some (.inl (if ((zb (¬ ((¬ (a < 1)) ∧ (¬ (50 < a))))) = 0) then (((K321_15_S a 0 (z_up S 13 0 (zb (¬ ((¬ (a < 1)) ∧ (¬ (50 < a))))))) 13 1) : Int32) else 0))), (G321 a S), 0) := zf_of (en_321 _ _) (zr_2_0 i321_0 (zr_1_1 i321_1 (zr_0 i321_2 kc_1 (zr_0 i321_3 kc_50 (zr_cv (zs_22_3 i321_4 na_213 rfl) (f213 a 1 50 S ) (zt_trans (zt_cast (zr_18b_0 i321_5 (fun h3835 => zr_0 i321_6 kc_0 (zr_17 i321_7 (zt_rfl))) (fun h3836 => zr_0 i321_8 kc_1 (zt_rfl))) (zm_c zz_s (zl_c (zl_t zz_01) zz_s) zz_s)) (zr_cv (zs_21_1 i321_9 na_212 ob_13 rfl) (f212 (zb (¬ ((¬ (a < 1)) ∧ (¬ (50 < a))))) S ) (zt_cast (zr_18b_1 i321_10 (fun h3837 => zr_0 i321_13 kc_0 (zr_3_2 i321_14 (zt_trans (L321_15 a 0 (z_up S 13 0 (zb (¬ ((¬ (a < 1)) ∧ (¬ (50 < a)))))) (by decide) (g0 h3837) (znv (zupf rfl) (g1)) (zpc1 (zupc rfl) (g2)) (znv (zupf rfl) (g3)) (zpc1 (zupc rfl) (g4)) (zpc1 (zupc rfl) (g5))) (zr_2_0 i321_22 (zr_6 i321_23 fl_13_1 rfl (zr_25 i321_24)))))) (fun h3838 => zr_0 i321_11 kc_0 (zr_25 i321_12))) (zm_r zz_e zz_e)))))))))
