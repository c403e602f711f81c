/-! the own parts of requests: credentials, certificates (wip/whole/gen/gen85.py) -/
theorem zx_d36 {b : Int32} (h : zx 216 b) : zx 6 (b / 36) := by
  rw [zx_iff] at h ⊢
  have e := zdiv_ti (x := b) (y := 36) (by decide) h.1
  rw [show (36 : Int32).toInt = 36 from rfl] at e
  omega
theorem zLea_cr {S T : zS} (h : zLea S T) (i : Nat) (x y : Int32) : zLea (z_up (z_up S 49 i x) 50 i y) (z_up (z_up T 128 i x) 129 i y) := by
  unfold zLea at h ⊢
  obtain ⟨k0, k1, k2, k3, k4, k5, k6, k7, k8, k9, k10, k11, k12, k13, k14, k15, k16, k17, k18⟩ := h
  simp only [zup2, zup1, k0, k1, k2, k3, k4, k5, k6, k7, k8, k9, k10, not_false_eq_true, not_true_eq_false, Nat.reduceEqDiff, reduceIte, true_and, and_true, ite_true, ite_false]
  exact ⟨k11, k12, k13, k14, k15, k16, k17, k18⟩
theorem zLea_p {S T : zS} (h : zLea S T) (a b c e l : Int32) (hlt : T 13 57 < 40) (ha : zx 40 a) (hb : zx 216 b) (hc : zx 3 c) : zLea (z_up (z_up (z_up (z_up (z_up (z_up (z_up (z_up S 41 (T 13 57).toNatClampNeg a) 42 (T 13 57).toNatClampNeg b) 43 (T 13 57).toNatClampNeg c) 46 (T 13 57).toNatClampNeg 0) 47 (T 13 57).toNatClampNeg 0) 6 0 ((T 13 57) + 1)) 44 (T 13 57).toNatClampNeg e) 45 (T 13 57).toNatClampNeg l) (z_up (z_up (z_up (z_up (z_up (z_up (z_up T 120 (T 13 57).toNatClampNeg a) 121 (T 13 57).toNatClampNeg b) 122 (T 13 57).toNatClampNeg c) 124 (T 13 57).toNatClampNeg l) 123 (T 13 57).toNatClampNeg e) 125 (T 13 57).toNatClampNeg 0) 13 57 ((T 13 57) + 1)) := by
  unfold zLea at h ⊢
  obtain ⟨k0, k1, k2, k3, k4, k5, k6, k7, k8, k9, k10, k11, k12, k13, k14, k15, k16, k17, k18⟩ := h
  have u : upd (T 126) (T 13 57).toNatClampNeg 0 = T 126 := zupd_s _ _ _ (k18 _ (Nat.le_refl _))
  have u0 := k18 _ (Nat.le_refl _)
  rw [zk_lt, zlt_40] at hlt
  have e1 : (T 13 57 + 1).toInt = (T 13 57).toInt + 1 := by
    unfold zn at k11
    rw [zk_tadd (by rw [zk_1]; omega) (by rw [zk_1]; omega), zk_1]
  have e2 := zk_nat k11.1
  have e3 := zk_nat (x := T 13 57 + 1) (by have := k11.1; omega)
  simp only [zup2, zup1, k0, k1, k2, k3, k4, k5, k6, k7, k8, k9, k10, u, not_false_eq_true, not_true_eq_false, Nat.reduceEqDiff, reduceIte, true_and, and_true, ite_true, ite_false]
  refine ⟨?_, ?_, ?_, ?_, ?_, ?_, k17, ?_⟩
  · have := k11.1; unfold zn; omega
  · intro j hj
    rw [upd_r]
    split
    · exact ha
    · exact k12 j hj
  · intro j hj
    rw [upd_r]
    split
    · exact hb
    · exact k13 j hj
  · intro j hj
    rw [upd_r]
    split
    · exact hc
    · exact k14 j hj
  · intro j
    split
    · rename_i ej; rw [ej]; exact fun _ => u0
    · exact k15 j
  · intro j
    split
    · intro e9; exact absurd e9 (by decide)
    · exact k16 j
  · intro j hj
    exact k18 j (by omega)
theorem zis {n : Nat} {S T : zS} (h : zQ n S T) (a b c d : Int32) (hb : zx 216 b) (ha : 0 ≤ a.toInt) (hlt : a.toInt < (T 13 45).toInt) (hal : T 119 a.toNatClampNeg = 0) : F296 a b c d T = F205 a b c d S ∧ zQ n (G205 a b c d S) (G296 a b c d T) ∧ ¬ F205 a b c d S = -2 ∧ ¬ F205 a b c d S = -3 := by
  have hL := zQ_Lea h
  have hT := zQ_Tok h
  have hE := zQ_Eng h
  have hLT := zQ_LT h
  have e6 : S 6 0 = T 13 57 := hL.1
  have s48 : S 48 = T 127 := hL.2.2.2.2.2.2.2.2.1
  have s49 : S 49 = T 128 := hL.2.2.2.2.2.2.2.2.2.1
  have s50 : S 50 = T 129 := hL.2.2.2.2.2.2.2.2.2.2.1
  have hn := hL.2.2.2.2.2.2.2.2.2.2.2.1
  have s34 : S 34 = T 113 := hT.2.2.2.2.2.1
  have s11 : S 0 11 = T 13 1 := (zQ_Key h).2.2.2.2.2.2.1
  have hx6 := zx_d36 hb
  have hx6' := zk_nat ((zx_iff.mp hx6).1)
  have hsys : zx 3 (T 85 (b / 36).toNatClampNeg) := hE.2.2.2.2 _ (by have := (zx_iff.mp hx6).2; omega)
  have hway := hL.2.2.2.2.2.2.2.2.2.2.2.2.2.2.2.2.2.1 (T 85 (b / 36).toNatClampNeg).toNatClampNeg (by have := zx_iff.mp hsys; have := zk_nat this.1; omega)
  have hax : zx 40 a := by rw [zx_iff]; have := hT.2.2.2.2.2.2.2.2.2.2.1.2; omega
  have e40 := zeq_top hn zlt_40
  have key : F296 a b c d T = F205 a b c d S ∧ zLea (G205 a b c d S) (G296 a b c d T) ∧ zLT (G205 a b c d S) (G296 a b c d T) ∧ ¬ F205 a b c d S = -2 ∧ ¬ F205 a b c d S = -3 := by
    unfold F296 F205 G205 G296
    rw [hE.1, hE.2.1, e6]
    simp only [e40]
    by_cases c0 : T 84 (b / 36).toNatClampNeg = 1
    rotate_left
    · simp only [if_neg c0]; exact ⟨trivial, hL, hLT, by decide, by decide⟩
    by_cases c1 : T 13 57 < 40
    rotate_left
    · simp only [if_pos c0, c1, not_false_eq_true, if_true]; exact ⟨trivial, hL, hLT, by decide, by decide⟩
    simp only [if_pos c0, c1, not_true_eq_false, if_false]
    generalize hs : T 85 (b / 36).toNatClampNeg = s at *
    rw [s48]
    have eG : G49 s S = z_up (z_up S 49 s.toNatClampNeg ((T 128 s.toNatClampNeg) + (zb (¬ ((T 127 s.toNatClampNeg) = 1))))) 50 s.toNatClampNeg ((T 129 s.toNatClampNeg) + (zb ((T 127 s.toNatClampNeg) = 2))) := by
      unfold G49
      rw [s48]
      by_cases w1 : T 127 s.toNatClampNeg = 1
      · rw [if_pos w1, (show zb (¬ ((T 127 s.toNatClampNeg) = 1)) = 0 from if_neg (fun q => q w1)), (show zb ((T 127 s.toNatClampNeg) = 2) = 0 from if_neg (by rw [w1]; decide)), Int32.add_zero, Int32.add_zero, zup_id S 49 _ _ (congrFun s49 _), zup_id S 50 _ _ (congrFun s50 _)]
      · rw [if_neg w1, (show zb (¬ ((T 127 s.toNatClampNeg) = 1)) = 1 from if_pos w1)]
        by_cases w2 : T 127 s.toNatClampNeg = 2
        · rw [if_pos w2, (show zb ((T 127 s.toNatClampNeg) = 2) = 1 from if_pos w2), s49, s50]
        · rw [if_neg w2, (show zb ((T 127 s.toNatClampNeg) = 2) = 0 from if_neg w2), Int32.add_zero, s49]
          exact (zup_id _ 50 _ _ ((zupci rfl).trans (congrFun s50 _))).symm
    have hL1 := zLea_cr hL s.toNatClampNeg ((T 128 s.toNatClampNeg) + (zb (¬ ((T 127 s.toNatClampNeg) = 1)))) ((T 129 s.toNatClampNeg) + (zb ((T 127 s.toNatClampNeg) = 2)))
    rw [eG]
    by_cases w0 : T 127 s.toNatClampNeg = 0
    · have w12 : ((¬ ((T 127 s.toNatClampNeg) = 1)) ∧ (¬ ((T 127 s.toNatClampNeg) = 2))) := by rw [w0]; exact ⟨by decide, by decide⟩
      simp only [if_pos w0, if_pos w12]
      unfold G50
      have q6 : (z_up (z_up S 49 s.toNatClampNeg ((T 128 s.toNatClampNeg) + (zb (¬ ((T 127 s.toNatClampNeg) = 1))))) 50 s.toNatClampNeg ((T 129 s.toNatClampNeg) + (zb ((T 127 s.toNatClampNeg) = 2)))) 6 0 = T 13 57 := (zupci rfl).trans ((zupci rfl).trans e6)
      have q57 : (z_up (z_up T 128 s.toNatClampNeg ((T 128 s.toNatClampNeg) + (zb (¬ ((T 127 s.toNatClampNeg) = 1))))) 129 s.toNatClampNeg ((T 129 s.toNatClampNeg) + (zb ((T 127 s.toNatClampNeg) = 2)))) 13 57 = T 13 57 := (zupci rfl).trans (zupci rfl)
      have q11 : (z_up (z_up S 49 s.toNatClampNeg ((T 128 s.toNatClampNeg) + (zb (¬ ((T 127 s.toNatClampNeg) = 1))))) 50 s.toNatClampNeg ((T 129 s.toNatClampNeg) + (zb ((T 127 s.toNatClampNeg) = 2)))) 0 11 = T 13 1 := (zupci rfl).trans ((zupci rfl).trans s11)
      have q34 : (z_up (z_up S 49 s.toNatClampNeg ((T 128 s.toNatClampNeg) + (zb (¬ ((T 127 s.toNatClampNeg) = 1))))) 50 s.toNatClampNeg ((T 129 s.toNatClampNeg) + (zb ((T 127 s.toNatClampNeg) = 2)))) 34 a.toNatClampNeg = T 113 a.toNatClampNeg := (zupci rfl).trans ((zupci rfl).trans (congrFun s34 _))
      have t119 : (z_up (z_up T 128 s.toNatClampNeg ((T 128 s.toNatClampNeg) + (zb (¬ ((T 127 s.toNatClampNeg) = 1))))) 129 s.toNatClampNeg ((T 129 s.toNatClampNeg) + (zb ((T 127 s.toNatClampNeg) = 2)))) 119 = T 119 := (zupc rfl).trans (zupc rfl)
      have t45 : (z_up (z_up T 128 s.toNatClampNeg ((T 128 s.toNatClampNeg) + (zb (¬ ((T 127 s.toNatClampNeg) = 1))))) 129 s.toNatClampNeg ((T 129 s.toNatClampNeg) + (zb ((T 127 s.toNatClampNeg) = 2)))) 13 45 = T 13 45 := (zupci rfl).trans (zupci rfl)
      have t120 : (z_up (z_up T 128 s.toNatClampNeg ((T 128 s.toNatClampNeg) + (zb (¬ ((T 127 s.toNatClampNeg) = 1))))) 129 s.toNatClampNeg ((T 129 s.toNatClampNeg) + (zb ((T 127 s.toNatClampNeg) = 2)))) 120 = T 120 := (zupc rfl).trans (zupc rfl)
      have t125 : (z_up (z_up T 128 s.toNatClampNeg ((T 128 s.toNatClampNeg) + (zb (¬ ((T 127 s.toNatClampNeg) = 1))))) 129 s.toNatClampNeg ((T 129 s.toNatClampNeg) + (zb ((T 127 s.toNatClampNeg) = 2)))) 125 = T 125 := (zupc rfl).trans (zupc rfl)
      generalize z_up (z_up S 49 s.toNatClampNeg ((T 128 s.toNatClampNeg) + (zb (¬ ((T 127 s.toNatClampNeg) = 1))))) 50 s.toNatClampNeg ((T 129 s.toNatClampNeg) + (zb ((T 127 s.toNatClampNeg) = 2))) = S1 at *
      generalize z_up (z_up T 128 s.toNatClampNeg ((T 128 s.toNatClampNeg) + (zb (¬ ((T 127 s.toNatClampNeg) = 1))))) 129 s.toNatClampNeg ((T 129 s.toNatClampNeg) + (zb ((T 127 s.toNatClampNeg) = 2))) = T1 at *
      have r11 : (z_up (z_up (z_up (z_up (z_up (z_up S1 41 (S1 6 0).toNatClampNeg a) 42 (S1 6 0).toNatClampNeg b) 43 (S1 6 0).toNatClampNeg s) 46 (S1 6 0).toNatClampNeg 0) 47 (S1 6 0).toNatClampNeg 0) 6 0 ((S1 6 0) + 1)) 0 11 = T 13 1 := by simp only [zup2, q11, Nat.reduceEqDiff, reduceIte, ite_false]
      have r34 : (z_up (z_up (z_up (z_up (z_up (z_up S1 41 (S1 6 0).toNatClampNeg a) 42 (S1 6 0).toNatClampNeg b) 43 (S1 6 0).toNatClampNeg s) 46 (S1 6 0).toNatClampNeg 0) 47 (S1 6 0).toNatClampNeg 0) 6 0 ((S1 6 0) + 1)) 34 a.toNatClampNeg = T 113 a.toNatClampNeg := by simp only [zup2, q34, Nat.reduceEqDiff, reduceIte, ite_false]
      rw [r11, r34, q6, zmin_i]
      have hLp := zLea_p hL1 a b s (if ((T 113 a.toNatClampNeg) ≤ ((T 13 1) + c)) then ((T 113 a.toNatClampNeg) : Int32) else ((T 13 1) + c)) ((T 13 1) + d) (by rw [q57]; exact c1) hax hb hsys
      rw [q57] at hLp
      refine ⟨Int32.add_sub_cancel _ _, hLp, ?_, zn_m hn (by decide), zn_m hn (by decide)⟩
      have hc1 := c1
      rw [zk_lt, zlt_40] at hc1
      have g1 : (T 13 57 + 1).toInt = (T 13 57).toInt + 1 := by
        have := hn.1
        rw [zk_tadd (by rw [zk_1]; omega) (by rw [zk_1]; omega), zk_1]
      have g2 := zk_nat hn.1
      have g3 := zk_nat (x := T 13 57 + 1) (by have := hn.1; omega)
      unfold zLT
      simp only [zup2, zup1, t119, t120, t125, t45, Nat.reduceEqDiff, reduceIte, ite_true, ite_false, upd_r]
      intro j hj
      by_cases ej : j = (T 13 57).toNatClampNeg
      · rw [if_pos ej, if_pos ej]; exact fun _ => ⟨hal, hlt⟩
      · rw [if_neg ej, if_neg ej]; exact hLT j (by omega)
    · have w12 : ¬ ((¬ ((T 127 s.toNatClampNeg) = 1)) ∧ (¬ ((T 127 s.toNatClampNeg) = 2))) := by
        rintro ⟨g1, g2⟩
        unfold zn at hway
        have k0 : (T 127 s.toNatClampNeg).toInt ≠ 0 := fun q => w0 (zk_eq.mpr q)
        have k1 : (T 127 s.toNatClampNeg).toInt ≠ 1 := fun q => g1 (zk_eq.mpr q)
        have k2 : (T 127 s.toNatClampNeg).toInt ≠ 2 := fun q => g2 (zk_eq.mpr q)
        omega
      simp only [if_neg w0, if_neg w12]
      refine ⟨trivial, hL1, ?_, by decide, by decide⟩
      unfold zLT
      simp only [zup2, zup1, Nat.reduceEqDiff, reduceIte, ite_true, ite_false]
      exact hLT
  exact ⟨key.1, ⟨(zSeal_kc rfl (p_G205 a b c d S) (zSeal_km rfl (p_G296 a b c d T) (zQ_Seal h))), (zKey_kc rfl (p_G205 a b c d S) (zKey_km rfl (p_G296 a b c d T) (zQ_Key h))), (zEng_kc rfl (p_G205 a b c d S) (zEng_km rfl (p_G296 a b c d T) (zQ_Eng h))), (zRul_kc rfl (p_G205 a b c d S) (zRul_km rfl (p_G296 a b c d T) (zQ_Rul h))), (zPpl_kc rfl (p_G205 a b c d S) (zPpl_km rfl (p_G296 a b c d T) (zQ_Ppl h))), (zTok_kc rfl (p_G205 a b c d S) (zTok_km rfl (p_G296 a b c d T) (zQ_Tok h))), key.2.1, key.2.2.1, (zSto_kc rfl (p_G205 a b c d S) (zSto_km rfl (p_G296 a b c d T) (zQ_Sto h))), (zFar_kc rfl (p_G205 a b c d S) (zFar_km rfl (p_G296 a b c d T) (zQ_Far h))), (zLog_kc rfl (p_G205 a b c d S) (zLog_km rfl (p_G296 a b c d T) (zQ_Log h))), (zWra_kc rfl (p_G205 a b c d S) (zWra_km rfl (p_G296 a b c d T) (zQ_Wra h))), (zCas_kc rfl (p_G205 a b c d S) (zCas_km rfl (p_G296 a b c d T) (zQ_Cas h))), (zCer_kc rfl (p_G205 a b c d S) (zCer_km rfl (p_G296 a b c d T) (zQ_Cer h))), (zSin_kc rfl (p_G205 a b c d S) (zSin_km rfl (p_G296 a b c d T) (zQ_Sin h)))⟩, key.2.2.2⟩
/-- certificates -/
theorem z7 {S T : zS} (h : zCer S T) (c : Int32) : F7 c (T 13 1) S = F308 c T := by
  obtain ⟨-, -, e73, e74, -, e76, -⟩ := h
  unfold F7 F308
  rw [e73, e74, e76]
  unfold zb
  by_cases c0 : T 141 c.toNatClampNeg ≤ T 13 1
  · rw [if_pos c0, if_neg (fun q => q.1 c0)]
  by_cases c1 : T 143 c.toNatClampNeg = 0
  rotate_left
  · rw [if_neg c0, if_neg c1, if_neg (fun q => c1 q.2.1)]
  rw [if_neg c0, if_pos c1]
  by_cases c2 : T 139 c.toNatClampNeg = c
  · rw [if_pos c2, c2, if_pos ⟨c0, c1, c0, c1⟩]
  rw [if_neg c2]
  by_cases c3 : T 141 (T 139 c.toNatClampNeg).toNatClampNeg ≤ T 13 1
  · rw [if_pos c3, if_neg (fun q => q.2.2.1 c3)]
  rw [if_neg c3]
  by_cases c4 : T 143 (T 139 c.toNatClampNeg).toNatClampNeg = 0
  · rw [if_pos c4, if_pos ⟨c0, c1, c3, c4⟩]
  · rw [if_neg c4, if_neg (fun q => c4 q.2.2.2)]
/-- who issues -/
theorem z3by {S T : zS} (h : zCer S T) (a b : Int32) : (F3 a S = -1 ∧ K309_20_c3 a b (T 13 79) 0 T = T 13 79) ∨ ∃ i, i < (T 13 79).toNatClampNeg ∧ F3 a S = Int32.ofNat i ∧ K309_20_c3 a b (T 13 79) 0 T = Int32.ofNat i ∧ T 140 i = a - zrem a 6 ∧ ¬ zrem a 6 = 0 := by
  obtain ⟨e11, e72, -⟩ := h
  unfold F3 K309_20_c3 K309_20
  by_cases c0 : zrem a 6 = 0
  · rw [if_pos c0, if_pos c0]; exact Or.inl ⟨rfl, rfl⟩
  rw [if_neg c0, if_neg c0, e72, e11]
  have key := zfold_sim (f := fun j b => if T 140 j = a - zrem a 6 then Int32.ofNat j else b) (g := k309_20 a b T) (i := 0) (n := (T 13 79).toNatClampNeg) (a := (-1 : Int32)) (b := T 13 79) (I := fun j x y => (x = -1 ∧ y = T 13 79) ∨ ∃ i, i < j ∧ x = Int32.ofNat i ∧ y = Int32.ofNat i ∧ T 140 i = a - zrem a 6) (Or.inl ⟨rfl, rfl⟩) (fun j x y hj hI => by
    rw [Nat.zero_add]
    unfold k309_20
    by_cases c1 : T 140 j = a - zrem a 6
    · rw [if_pos c1, if_pos c1]; exact Or.inr ⟨j, Nat.lt_succ_self j, rfl, rfl, c1⟩
    · rw [if_neg c1, if_neg c1]
      rcases hI with hI | ⟨i, h1, h2⟩
      · exact Or.inl hI
      · exact Or.inr ⟨i, by omega, h2⟩)
  rw [Nat.sub_zero]
  rcases key with key | ⟨i, h1, h2, h3, h4⟩
  · exact Or.inl key
  · exact Or.inr ⟨i, h1, h2, h3, h4, c0⟩
theorem zrem_6 {a : Int32} (h : zx 216 a) : zrem (a - zrem a 6) 6 = 0 := by
  rw [zx_iff] at h
  have e1 := zrem_nn (x := a) (y := 6) (by decide) h.1
  rw [zlt_6] at e1
  have e2 : (a - zrem a 6).toInt = a.toInt - a.toInt % 6 := by rw [zk_tsub (by omega) (by omega), e1]
  have e3 := zrem_nn (x := a - zrem a 6) (y := 6) (by decide) (by omega)
  rw [zlt_6] at e3
  apply zk_eq.mpr
  rw [e3, e2, zlt_0]
  omega
theorem zCer_p {S T : zS} (h : zCer S T) (a i e : Int32) (hlt : T 13 79 < 30) (ha : zx 216 a) (hi : (i = T 13 79) ∨ ((0 ≤ i.toInt) ∧ (i.toInt < (T 13 79).toInt) ∧ T 139 i.toNatClampNeg = i ∧ ¬ zrem a 6 = 0)) : zCer (z_up (z_up (z_up (z_up S 72 (T 13 79).toNatClampNeg a) 74 (T 13 79).toNatClampNeg i) 73 (T 13 79).toNatClampNeg e) 11 0 ((T 13 79) + 1)) (z_up (z_up (z_up (z_up T 139 (T 13 79).toNatClampNeg i) 140 (T 13 79).toNatClampNeg a) 141 (T 13 79).toNatClampNeg e) 13 79 ((T 13 79) + 1)) := by
  unfold zCer at h ⊢
  obtain ⟨k0, k1, k2, k3, k4, k5, k6, k7, k8, k9, k10⟩ := h
  rw [zk_lt, zlt_30] at hlt
  have e1 : (T 13 79 + 1).toInt = (T 13 79).toInt + 1 := by
    unfold zn at k6
    rw [zk_tadd (by rw [zk_1]; omega) (by rw [zk_1]; omega), zk_1]
  have e2 := zk_nat k6.1
  have e3 := zk_nat (x := T 13 79 + 1) (by have := k6.1; omega)
  simp only [zup2, zup1, k0, k1, k2, k3, k4, k5, not_false_eq_true, not_true_eq_false, Nat.reduceEqDiff, reduceIte, true_and, and_true, ite_true, ite_false]
  refine ⟨?_, ?_, ?_, k9, k10⟩
  · have := k6.1; unfold zn; omega
  · intro c hc
    by_cases ec : c = (T 13 79).toNatClampNeg
    · rw [if_pos ec]
      rcases hi with rfl | ⟨q1, q2, q3, q4⟩
      · refine ⟨by omega, by omega, ?_⟩
        rw [if_pos rfl]
      · have := zk_nat q1
        refine ⟨q1, by omega, ?_⟩
        rw [if_neg (by omega)]; exact q3
    · rw [if_neg ec]
      obtain ⟨g1, g2, g3⟩ := k7 c (by omega)
      have := zk_nat g1
      refine ⟨g1, g2, ?_⟩
      rw [if_neg (by omega)]; exact g3
  · intro c hc
    by_cases ec : c = (T 13 79).toNatClampNeg
    · rw [if_pos ec, if_pos ec]
      refine ⟨ha, fun hz => ?_⟩
      rcases hi with rfl | ⟨q1, q2, q3, q4⟩
      · rw [ec]; exact (zk_of k6.1).symm
      · exact absurd hz q4
    · rw [if_neg ec, if_neg ec]
      exact k8 c (by omega)
theorem zce {n : Nat} {S T : zS} (h : zQ n S T) (a b : Int32) (ha : zx 216 a) : F309 a b T = F208 a b S ∧ zQ n (G208 a b S) (G309 a b T) ∧ ¬ F208 a b S = -2 ∧ ¬ F208 a b S = -3 := by
  have hC := zQ_Cer h
  have hE := zQ_Eng h
  have e11 : S 11 0 = T 13 79 := hC.1
  have e73 : S 73 = T 141 := hC.2.2.1
  have hn := hC.2.2.2.2.2.2.1
  have h7 := hC.2.2.2.2.2.2.2.1
  have h8 := hC.2.2.2.2.2.2.2.2.1
  have s11 : S 0 11 = T 13 1 := (zQ_Key h).2.2.2.2.2.2.1
  have e30 := zeq_top hn zlt_30
  have key : F309 a b T = F208 a b S ∧ zCer (G208 a b S) (G309 a b T) ∧ ¬ F208 a b S = -2 ∧ ¬ F208 a b S = -3 := by
    unfold F309 F208 G208 G309 G4
    rw [hE.1, e11, s11, Int32.add_sub_cancel, z7 hC]
    simp only [e30]
    by_cases c0 : T 84 (a / 36).toNatClampNeg = 2
    rotate_left
    · simp only [if_neg c0]; exact ⟨trivial, hC, by decide, by decide⟩
    by_cases c1 : T 13 79 < 30
    rotate_left
    · simp only [if_pos c0, c1, not_false_eq_true, if_true]; exact ⟨trivial, hC, by decide, by decide⟩
    simp only [if_pos c0, c1, not_true_eq_false, if_false]
    have hcl := zn_cl hn
    have hnat := zk_nat hn.1
    rcases z3by hC a b with ⟨f1, f2⟩ | ⟨i, hi, f1, f2, f3, f4⟩
    · rw [f1, f2]
      simp only [if_true]
      exact ⟨trivial, zCer_p hC a (T 13 79) (T 13 1 + b) c1 ha (Or.inl rfl), zn_m hn (by decide), zn_m hn (by decide)⟩
    · have hne1 : ¬ Int32.ofNat i = -1 := by intro e; have := zk_ti i (by omega); rw [e, zlt_m1] at this; omega
      have hne2 : ¬ Int32.ofNat i = T 13 79 := by intro e; have := zk_ti i (by omega); rw [e] at this; omega
      rw [f1, f2]
      simp only [if_neg hne1, if_neg hne2]
      by_cases c2 : F308 (Int32.ofNat i) T = 0
      · simp only [if_pos c2]; exact ⟨trivial, hC, by decide, by decide⟩
      · simp only [if_neg c2]
        have hs : T 139 i = Int32.ofNat i := (h8 i hi).2 (by rw [f3]; exact zrem_6 ha)
        have hmin : zmin (T 13 1 + b) (S 73 (Int32.ofNat i).toNatClampNeg) = (if (((T 13 1) + b) ≤ (T 141 (Int32.ofNat i).toNatClampNeg)) then (((T 13 1) + b) : Int32) else (T 141 (Int32.ofNat i).toNatClampNeg)) := by
          rw [e73]
          unfold zmin
          generalize T 141 (Int32.ofNat i).toNatClampNeg = y
          generalize T 13 1 + b = x
          by_cases g : y < x
          · rw [if_pos g, if_neg (fun q => by rw [zk_lt] at g; rw [zk_le] at q; omega)]
          · rw [if_neg g, if_pos (by rw [zk_lt] at g; rw [zk_le]; omega)]
        rw [hmin]
        refine ⟨trivial, zCer_p hC a (Int32.ofNat i) _ c1 ha (Or.inr ⟨?_, ?_, ?_, f4⟩), zn_m hn (by decide), zn_m hn (by decide)⟩
        · rw [zk_ti i (by omega)]; omega
        · rw [zk_ti i (by omega)]; omega
        · rw [zk_ix i (by omega)]; exact hs
  exact ⟨key.1, ⟨(zSeal_kc rfl (p_G208 a b S) (zSeal_km rfl (p_G309 a b T) (zQ_Seal h))), (zKey_kc rfl (p_G208 a b S) (zKey_km rfl (p_G309 a b T) (zQ_Key h))), (zEng_kc rfl (p_G208 a b S) (zEng_km rfl (p_G309 a b T) (zQ_Eng h))), (zRul_kc rfl (p_G208 a b S) (zRul_km rfl (p_G309 a b T) (zQ_Rul h))), (zPpl_kc rfl (p_G208 a b S) (zPpl_km rfl (p_G309 a b T) (zQ_Ppl h))), (zTok_kc rfl (p_G208 a b S) (zTok_km rfl (p_G309 a b T) (zQ_Tok h))), (zLea_kc rfl (p_G208 a b S) (zLea_km rfl (p_G309 a b T) (zQ_Lea h))), (zLT_kc rfl (p_G208 a b S) (zLT_km rfl (p_G309 a b T) (zQ_LT h))), (zSto_kc rfl (p_G208 a b S) (zSto_km rfl (p_G309 a b T) (zQ_Sto h))), (zFar_kc rfl (p_G208 a b S) (zFar_km rfl (p_G309 a b T) (zQ_Far h))), (zLog_kc rfl (p_G208 a b S) (zLog_km rfl (p_G309 a b T) (zQ_Log h))), (zWra_kc rfl (p_G208 a b S) (zWra_km rfl (p_G309 a b T) (zQ_Wra h))), (zCas_kc rfl (p_G208 a b S) (zCas_km rfl (p_G309 a b T) (zQ_Cas h))), key.2.1, (zSin_kc rfl (p_G208 a b S) (zSin_km rfl (p_G309 a b T) (zQ_Sin h)))⟩, key.2.2⟩
