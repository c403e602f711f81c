/-! hours (wip/whole/gen/gen92.py) -/
theorem zLstep {m : Nat} {S T S' T' : zS} (h : zR m S T) (hL : zLea S' T') (hm : ∀ i, T' 125 i = 0 → T 125 i = 0) (hS : zkp [44, 46, 47, 49, 50] [] S S') (hT : zkp [123, 125, 126, 128, 129] [] T T') : zR m S' T' := by
  have hQ := zR_Q h
  have hLT : zLT S' T' := zlt_mono (zQ_LT hQ) (congrFun (hT.1 13 rfl) 57) (congrFun (hT.1 13 rfl) 45) (hT.1 119 rfl) (hT.1 120 rfl) hm
  exact zQ_R ⟨(zSeal_kc rfl hS (zSeal_km rfl hT (zQ_Seal hQ))), (zKey_kc rfl hS (zKey_km rfl hT (zQ_Key hQ))), (zEng_kc rfl hS (zEng_km rfl hT (zQ_Eng hQ))), (zRul_kc rfl hS (zRul_km rfl hT (zQ_Rul hQ))), (zPpl_kc rfl hS (zPpl_km rfl hT (zQ_Ppl hQ))), (zTok_kc rfl hS (zTok_km rfl hT (zQ_Tok hQ))), hL, hLT, (zSto_kc rfl hS (zSto_km rfl hT (zQ_Sto hQ))), (zFar_kc rfl hS (zFar_km rfl hT (zQ_Far hQ))), (zLog_kc rfl hS (zLog_km rfl hT (zQ_Log hQ))), (zWra_kc rfl hS (zWra_km rfl hT (zQ_Wra hQ))), (zCas_kc rfl hS (zCas_km rfl hT (zQ_Cas hQ))), (zCer_kc rfl hS (zCer_km rfl hT (zQ_Cer hQ))), (zSin_kc rfl hS (zSin_km rfl hT (zQ_Sin hQ)))⟩ (zUse_kc rfl hS (zUse_km rfl hT (zR_Use h)))
theorem zh1 {m : Nat} {S T : zS} (h : zR m S T) (hh : (T 13 1).toInt < 50 * m) (hm : m < 1000) : zR m (z_up S 0 11 ((S 0 11) + 1)) (z_up T 13 1 ((T 13 1) + 1)) ∧ ((T 13 1) + 1).toInt = (T 13 1).toInt + 1 := by
  have hQ := zR_Q h
  have hK := zQ_Key hQ
  have h0 := hK.2.2.2.2.2.2.2.1
  have e : ((T 13 1) + 1).toInt = (T 13 1).toInt + 1 := by have := h0.1; rw [zk_tadd (by rw [zk_1]; omega) (by rw [zk_1]; omega), zk_1]
  have hpS : zkp [0] [11] S (z_up S 0 11 ((S 0 11) + 1)) := zkp_upf zkp_S rfl rfl
  have hpT : zkp [13] [13001] T (z_up T 13 1 ((T 13 1) + 1)) := zkp_upf zkp_S rfl rfl
  have kK : zKey m (z_up S 0 11 ((S 0 11) + 1)) (z_up T 13 1 ((T 13 1) + 1)) := by
    unfold zKey at hK ⊢
    obtain ⟨k0, k1, k2, k3, k4, k5, k6, k7, k8, k9⟩ := hK
    simp only [zup2, k0, k1, k2, k3, k4, k5, k6, Nat.reduceEqDiff, reduceIte, true_and, and_true, ite_true, ite_false]
    refine ⟨?_, k8, k9⟩
    have := h0.1
    unfold zn; omega
  exact ⟨zQ_R ⟨(zSeal_kc rfl hpS (zSeal_km rfl hpT (zQ_Seal hQ))), kK, (zEng_kc rfl hpS (zEng_km rfl hpT (zQ_Eng hQ))), (zRul_kc rfl hpS (zRul_km rfl hpT (zQ_Rul hQ))), (zPpl_kc rfl hpS (zPpl_km rfl hpT (zQ_Ppl hQ))), (zTok_kc rfl hpS (zTok_km rfl hpT (zQ_Tok hQ))), (zLea_kc rfl hpS (zLea_km rfl hpT (zQ_Lea hQ))), (zLT_kc rfl hpS (zLT_km rfl hpT (zQ_LT hQ))), (zSto_kc rfl hpS (zSto_km rfl hpT (zQ_Sto hQ))), (zFar_kc rfl hpS (zFar_km rfl hpT (zQ_Far hQ))), (zLog_kc rfl hpS (zLog_km rfl hpT (zQ_Log hQ))), (zWra_kc rfl hpS (zWra_km rfl hpT (zQ_Wra hQ))), (zCas_kc rfl hpS (zCas_km rfl hpT (zQ_Cas hQ))), (zCer_kc rfl hpS (zCer_km rfl hpT (zQ_Cer hQ))), (zSin_kc rfl hpS (zSin_km rfl hpT (zQ_Sin hQ)))⟩ (zUse_kc rfl hpS (zUse_km rfl hpT (zR_Use h))), e⟩
theorem zh2 {m : Nat} {S T : zS} (h : zR m S T) : zR m (K13_2_S 0 S) (K320_8_S 0 T) := by
  have hQ := zR_Q h
  have hpS := p_K13_2_S 0 S
  have hpT := p_K320_8_S 0 T
  have kE : zEng (K13_2_S 0 S) (K320_8_S 0 T) := by
    unfold K13_2_S K13_2 K320_8_S K320_8
    exact zfold_rel (I := fun c d => zEng c d) (zQ_Eng hQ) (fun j c d hj hI => zEng_r hI _ 0)
  exact zQ_R ⟨(zSeal_kc rfl hpS (zSeal_km rfl hpT (zQ_Seal hQ))), (zKey_kc rfl hpS (zKey_km rfl hpT (zQ_Key hQ))), kE, (zRul_kc rfl hpS (zRul_km rfl hpT (zQ_Rul hQ))), (zPpl_kc rfl hpS (zPpl_km rfl hpT (zQ_Ppl hQ))), (zTok_kc rfl hpS (zTok_km rfl hpT (zQ_Tok hQ))), (zLea_kc rfl hpS (zLea_km rfl hpT (zQ_Lea hQ))), (zLT_kc rfl hpS (zLT_km rfl hpT (zQ_LT hQ))), (zSto_kc rfl hpS (zSto_km rfl hpT (zQ_Sto hQ))), (zFar_kc rfl hpS (zFar_km rfl hpT (zQ_Far hQ))), (zLog_kc rfl hpS (zLog_km rfl hpT (zQ_Log hQ))), (zWra_kc rfl hpS (zWra_km rfl hpT (zQ_Wra hQ))), (zCas_kc rfl hpS (zCas_km rfl hpT (zQ_Cas hQ))), (zCer_kc rfl hpS (zCer_km rfl hpT (zQ_Cer hQ))), (zSin_kc rfl hpS (zSin_km rfl hpT (zQ_Sin hQ)))⟩ (zUse_kc rfl hpS (zUse_km rfl hpT (zR_Use h)))
theorem zh3 {m : Nat} {S T : zS} (h : zR m S T) (u : Option zV) : zR m (K210_11_S 0 S) (K320_20_S u 0 T) ∧ (K320_20_S u 0 T) 13 1 = T 13 1 := by
  unfold K210_11_S K210_11 K320_20_S K320_20
  have hn := (zQ_Tok (zR_Q h)).2.2.2.2.2.2.2.2.2.2.1
  have hnat := zk_nat hn.1
  have hcl := zn_cl hn
  rw [(zQ_Tok (zR_Q h)).1]
  have key := zfold_rel (f := k210_11) (f' := k320_20) (i := 0) (n := (T 13 45).toNatClampNeg - 0) (a := S) (b := (u, T)) (I := fun (c : zS) (d : Option zV × zS) => zR m c d.2 ∧ d.2 13 1 = T 13 1 ∧ d.2 13 45 = T 13 45) ⟨h, rfl, rfl⟩ (fun j c d hj hI => by
    obtain ⟨hR, e1, e45⟩ := hI
    have hQ := zR_Q hR
    have hT := zQ_Tok hQ
    have s40 : c 40 = d.2 119 := hT.2.2.2.2.2.2.2.2.2.1
    have s34 : c 34 = d.2 113 := hT.2.2.2.2.2.1
    have s11 : c 0 11 = d.2 13 1 := (zQ_Key hQ).2.2.2.2.2.2.1
    rw [Nat.zero_add]
    unfold k210_11 k320_20
    dsimp only
    rw [s40, s34, s11]
    by_cases c0 : d.2 119 j = 0
    · by_cases c1 : d.2 113 j = d.2 13 1
      · rw [if_pos c0, if_pos c1, if_pos c0, if_pos c1]
        have hj1 := zk_ti j (by omega)
        obtain ⟨w1, w2, w3⟩ := zdie hQ (Int32.ofNat j) (by omega) (by rw [e45]; omega)
        have hpT := p_G264 (Int32.ofNat j) d.2
        exact ⟨zQ_R w1 (w3 (Int32.ofNat j) (zUm_of (zR_Use hR) _) (Or.inl rfl)), (congrFun (hpT.1 13 rfl) 1).trans e1, (congrFun (hpT.1 13 rfl) 45).trans e45⟩
      · rw [if_pos c0, if_neg c1, if_pos c0, if_neg c1]; exact ⟨hR, e1, e45⟩
    · rw [if_neg c0, if_neg c0]; exact ⟨hR, e1, e45⟩)
  exact ⟨key.1, key.2.1⟩
theorem zh4 {m : Nat} {S T : zS} (h : zR m S T) (x : Int32) (u : Option zV) (hx : T 13 1 = x) : zR m (K55_2_S x 0 S) (K320_44_S u 0 T) := by
  have hpS := p_K55_2_S x 0 S
  have hpT := p_K320_44_S u 0 T
  have hL := zQ_Lea (zR_Q h)
  have key : zLea (K55_2_S x 0 S) (K320_44_S u 0 T) ∧ (∀ i, (K320_44_S u 0 T) 125 i = 0 → T 125 i = 0) := by
    unfold K55_2_S K55_2 K320_44_S K320_44
    rw [hL.1]
    have kk := zfold_rel (f := k55_2 x) (f' := k320_44) (i := 0) (n := (T 13 57).toNatClampNeg - 0) (a := S) (b := T) (I := fun (c d : zS) => zLea c d ∧ d 13 = T 13 ∧ (∀ i, d 125 i = 0 → T 125 i = 0)) ⟨hL, rfl, fun _ e => e⟩ (fun j c d hj hI => by
      obtain ⟨hl, e13, el⟩ := hI
      have hj' : j < (d 13 57).toNatClampNeg := by rw [e13]; omega
      have hj4 : j < 40 := by have := zn_cl hl.2.2.2.2.2.2.2.2.2.2.2.1; omega
      have s46 : c 46 = d 125 := hl.2.2.2.2.2.2.1
      have s44 : c 44 = d 123 := hl.2.2.2.2.1
      rw [Nat.zero_add]
      unfold k55_2 k320_44
      rw [s46, s44, e13, hx]
      by_cases c0 : d 125 j = 0
      · by_cases c1 : d 123 j = x
        · rw [if_pos c0, if_pos c0, if_pos c1, if_pos c1]
          have hz := zLeX_t (zLeX_end hl hj' c0 x)
          obtain ⟨z1, z2, z3⟩ := z269_s j hj4 (z_up (z_up d 123 j x) 126 j 0)
          refine ⟨hz, ?_, fun i e => ?_⟩
          · rw [z269_k _ _ 13 (by decide) (by decide) (by decide)]; exact (zupc rfl).trans ((zupc rfl).trans e13)
          · by_cases hij : i = j
            · subst hij; exact absurd e z1
            · rw [z2 i hij] at e
              exact el i (((zupci rfl).trans (zupci rfl)).symm.trans e)
        · rw [if_pos c0, if_pos c0, if_neg c1, if_neg c1]; exact ⟨hl, e13, el⟩
      · rw [if_neg c0, if_neg c0]; exact ⟨hl, e13, el⟩)
    exact ⟨kk.1, kk.2.2⟩
  exact zLstep h key.1 key.2 (zkp_tr zkp_S hpS rfl rfl) (zkp_tr zkp_S hpT rfl rfl)
theorem zh5 {m : Nat} {S T : zS} (h : zR m S T) (x : Int32) (u : Option zV) (hx : T 13 1 = x) : zR m (K56_2_S x 0 S) (K320_67_S u 0 T) := by
  have hpS := p_K56_2_S x 0 S
  have hpT := p_K320_67_S u 0 T
  have hL := zQ_Lea (zR_Q h)
  have key : zLea (K56_2_S x 0 S) (K320_67_S u 0 T) ∧ (∀ i, (K320_67_S u 0 T) 125 i = 0 → T 125 i = 0) := by
    unfold K56_2_S K56_2 K320_67_S K320_67
    rw [hL.1]
    have kk := zfold_rel (f := k56_2 x) (f' := k320_67) (i := 0) (n := (T 13 57).toNatClampNeg - 0) (a := S) (b := T) (I := fun (c d : zS) => zLea c d ∧ d 13 = T 13 ∧ (∀ i, d 125 i = 0 → T 125 i = 0)) ⟨hL, rfl, fun _ e => e⟩ (fun j c d hj hI => by
      obtain ⟨hl, e13, el⟩ := hI
      have hj' : j < (d 13 57).toNatClampNeg := by rw [e13]; omega
      have hj4 : j < 40 := by have := zn_cl hl.2.2.2.2.2.2.2.2.2.2.2.1; omega
      have s46 : c 46 = d 125 := hl.2.2.2.2.2.2.1
      have s44 : c 44 = d 123 := hl.2.2.2.2.1
      rw [Nat.zero_add]
      unfold k56_2 k320_67
      rw [s46, s44, e13, hx]
      by_cases c0 : d 125 j = 1
      · by_cases c1 : x ≤ d 123 j
        · rw [if_pos c0, if_pos c0, if_pos c1, if_pos c1]; exact ⟨hl, e13, el⟩
        · rw [if_pos c0, if_pos c0, if_neg c1, if_neg c1]
          have hz := zLeX_t (zLeX_ag hl hj' c0)
          obtain ⟨z1, z2, z3⟩ := z269_s j hj4 d
          refine ⟨hz, ?_, fun i e => ?_⟩
          · rw [z269_k _ _ 13 (by decide) (by decide) (by decide)]; exact e13
          · by_cases hij : i = j
            · subst hij; exact absurd e z1
            · rw [z2 i hij] at e
              exact el i e
      · rw [if_neg c0, if_neg c0]; exact ⟨hl, e13, el⟩)
    exact ⟨kk.1, kk.2.2⟩
  exact zLstep h key.1 key.2 (zkp_tr zkp_S hpS rfl rfl) (zkp_tr zkp_S hpT rfl rfl)
theorem zh6 {m : Nat} {S T : zS} (h : zR m S T) (u : Option zV) : zR m (K57_2_S 0 S) (K320_91_S u 0 T) := by
  have hpS := p_K57_2_S 0 S
  have hpT := p_K320_91_S u 0 T
  have hL := zQ_Lea (zR_Q h)
  have key : zLea (K57_2_S 0 S) (K320_91_S u 0 T) := by
    unfold K57_2_S K57_2 K320_91_S K320_91
    refine zfold_rel (I := fun (c : zS) (d : Option zV × zS) => zLea c d.2) hL (fun j c d hj hI => ?_)
    have hI' := hI
    unfold zLea at hI
    obtain ⟨k0, k1, k2, k3, k4, k5, k6, k7, k8, k9, k10, k11, k12, k13, k14, k15, k16, k17, k18⟩ := hI
    unfold k57_2 k320_91
    dsimp only
    rw [k8, k9, k10]
    by_cases c0 : d.2 127 (0 + j) = 0
    · simp only [if_pos c0]
      exact zLea_cr hI' (0 + j) _ _
    · simp only [if_neg c0]
      rw [Int32.sub_zero, zup_id d.2 128 _ _ rfl, zup_id d.2 129 _ _ rfl]
      exact hI'
  exact zLstep h key (fun i e => by rw [hpT.1 125 rfl] at e; exact e) (zkp_tr zkp_S hpS rfl rfl) (zkp_tr zkp_S hpT rfl rfl)
theorem zhour {m : Nat} {S T : zS} (h : zR m S T) (hh : (T 13 1).toInt < 50 * m) (hm : m < 1000) : zR m (G210 S) (G320 T) ∧ ((G320 T) 13 1).toInt = (T 13 1).toInt + 1 := by
  obtain ⟨h1, e1⟩ := zh1 h hh hm
  have h2 := zh2 h1
  have q2 : (K320_8_S 0 (z_up T 13 1 ((T 13 1) + 1))) 13 1 = (T 13 1) + 1 := ((p_K320_8_S 0 _).2 13 1 rfl rfl).trans (zup_s _ _ _ _)
  obtain ⟨h3, e3⟩ := zh3 h2 (none : Option zV)
  rw [q2] at e3
  have c3 := (zQ_Key (zR_Q h3)).2.2.2.2.2.2.1
  have h4 := zh4 h3 _ (K320_20_c2 (none : Option zV) 0 (K320_8_S 0 (z_up T 13 1 ((T 13 1) + 1)))) c3.symm
  have q4 := (p_K320_44_S (K320_20_c2 (none : Option zV) 0 (K320_8_S 0 (z_up T 13 1 ((T 13 1) + 1)))) 0 (K320_20_S (none : Option zV) 0 (K320_8_S 0 (z_up T 13 1 ((T 13 1) + 1))))).2 13 1 rfl rfl
  have c4 := (zQ_Key (zR_Q h4)).2.2.2.2.2.2.1
  have h5 := zh5 h4 _ (K320_20_c2 (none : Option zV) 0 (K320_8_S 0 (z_up T 13 1 ((T 13 1) + 1)))) c4.symm
  have q5 := (p_K320_67_S (K320_20_c2 (none : Option zV) 0 (K320_8_S 0 (z_up T 13 1 ((T 13 1) + 1)))) 0 (K320_44_S (K320_20_c2 (none : Option zV) 0 (K320_8_S 0 (z_up T 13 1 ((T 13 1) + 1)))) 0 (K320_20_S (none : Option zV) 0 (K320_8_S 0 (z_up T 13 1 ((T 13 1) + 1)))))).2 13 1 rfl rfl
  have h6 := zh6 h5 (K320_20_c2 (none : Option zV) 0 (K320_8_S 0 (z_up T 13 1 ((T 13 1) + 1))))
  have q6 := (p_K320_91_S (K320_20_c2 (none : Option zV) 0 (K320_8_S 0 (z_up T 13 1 ((T 13 1) + 1)))) 0 (K320_67_S (K320_20_c2 (none : Option zV) 0 (K320_8_S 0 (z_up T 13 1 ((T 13 1) + 1)))) 0 (K320_44_S (K320_20_c2 (none : Option zV) 0 (K320_8_S 0 (z_up T 13 1 ((T 13 1) + 1)))) 0 (K320_20_S (none : Option zV) 0 (K320_8_S 0 (z_up T 13 1 ((T 13 1) + 1))))))).2 13 1 rfl rfl
  refine ⟨?_, ?_⟩
  · unfold G210 G320
    exact h6
  · unfold G320
    rw [q6, q5, q4, e3, e1]
theorem zrq53 {n : Nat} {S T : zS} (q1 : Int32) (hn : n < 512) (h : zR n S T) : (((G321 q1 T) 13 0) = (F371_0_148 q1 S) ∧ ((F371_0_148 q1 S) = 0 → ((G371_0_148 q1 S) 148 0) = (if ((zb (¬ ((¬ (q1 < 1)) ∧ (¬ (50 < q1))))) = 0) then (((K321_15_S q1 0 (z_up T 13 0 (zb (¬ ((¬ (q1 < 1)) ∧ (¬ (50 < q1))))))) 13 1) : Int32) else 0))) ∧ zR (n + 1) (G371_0_148 q1 S) (M53 q1 T) := by
  have hQ := zR_Q h
  have hQt := zQ_thr hQ 0
  have hUt := zU_thr (zR_Use h) 0
  show (((G321 q1 T) 13 0) = (F371_0_148 q1 S) ∧ ((F371_0_148 q1 S) = 0 → ((G371_0_148 q1 S) 148 0) = (if ((zb (¬ ((¬ (q1 < 1)) ∧ (¬ (50 < q1))))) = 0) then (((K321_15_S q1 0 (z_up T 13 0 (zb (¬ ((¬ (q1 < 1)) ∧ (¬ (50 < q1))))))) 13 1) : Int32) else 0))) ∧ zR (n + 1) (G371_0_148 q1 S) (G321 q1 T)
  by_cases hC : (¬ (q1 < 1)) ∧ (¬ (50 < q1))
  · have eV : (zb (¬ ((¬ (q1 < 1)) ∧ (¬ (50 < q1))))) = 0 := by rw [zb_0]; exact fun w => w hC
    have eF : F371_0_148 q1 S = 0 := eV
    have e1 : G321 q1 T = K321_15_S q1 0 (z_up T 13 0 0) := by unfold G321; rw [eV, if_pos rfl]
    have e2 : G371_0_148 q1 S = z_up (K184_7_S q1 0 S) 148 0 ((K184_7_S q1 0 S) 0 11) := by unfold G371_0_148; rw [if_pos hC]
    have hq : 1 ≤ q1.toInt ∧ q1.toInt ≤ 50 := by simp only [zk_lt, zk_le, zlt_m1, zlt_0, zlt_1, zlt_2, zlt_3, zlt_4, zlt_5, zlt_6, zlt_7, zlt_8, zlt_9, zlt_10, zlt_15, zlt_16, zlt_20, zlt_24, zlt_30, zlt_36, zlt_39, zlt_40, zlt_50, zlt_72, zlt_100, zlt_199, zlt_200, zlt_215, zlt_216, zlt_255, zlt_256, zlt_1000, zlt_9999, zlt_65535, zlt_1000000000] at hC; omega
    have hqn := zk_nat (x := q1) (by omega)
    have h0 := (zQ_Key hQ).2.2.2.2.2.2.2.1
    have t1 : (z_up T 13 0 0) 13 1 = T 13 1 := zupf rfl
    have hR0 : zR (n + 1) S (z_up T 13 0 0) := zQ_R (zQ_up hQt) hUt
    have key : zR (n + 1) (K184_7_S q1 0 S) (K321_15_S q1 0 (z_up T 13 0 0)) ∧ ((K321_15_S q1 0 (z_up T 13 0 0)) 13 1).toInt ≤ 50 * n + (q1.toNatClampNeg - 0 : Nat) := by
      unfold K184_7_S K184_7 K321_15_S K321_15
      refine zfold_sim (I := fun j (c d : zS) => zR (n + 1) c d ∧ (d 13 1).toInt ≤ 50 * n + j) ⟨hR0, ?_⟩ (fun j c d hj hI => ?_)
      · rw [t1]; have := h0.2; omega
      · obtain ⟨hR, hh⟩ := hI
        obtain ⟨w1, w2⟩ := zhour hR (by omega) (by omega)
        exact ⟨w1, by show ((G320 d) 13 1).toInt ≤ _; rw [w2]; omega⟩
    rw [e1, e2, eF, eV, if_pos rfl]
    exact ⟨⟨((p_K321_15_S q1 0 (z_up T 13 0 0)).2 13 0 rfl rfl).trans (zup_s _ _ _ _), fun _ => (zup_s _ _ _ _).trans (zQ_Key (zR_Q key.1)).2.2.2.2.2.2.1⟩, zQ_R (zQ_out (zR_Q key.1) _) (zU_out (zR_Use key.1) _)⟩
  · have eV : (zb (¬ ((¬ (q1 < 1)) ∧ (¬ (50 < q1))))) = 1 := if_pos hC
    have eF : F371_0_148 q1 S = 1 := eV
    have e1 : G321 q1 T = z_up T 13 0 1 := by unfold G321; rw [eV, if_neg (show ¬ ((1 : Int32) = 0) by decide)]
    have e2 : G371_0_148 q1 S = S := by unfold G371_0_148; rw [if_neg hC]
    rw [e1, e2, eF]
    exact ⟨⟨zup_s _ _ _ _, fun e => absurd e (by decide)⟩, zQ_R (zQ_thr (zQ_up hQ) 1) (zU_thr (zR_Use h) 1)⟩
theorem zyr53 {n : Nat} {S T : zS} (q1 : Int32) (hn : n < 512) (h : zR n S T) : ((G321 q1 T) 13 0) = (F371_0_148 q1 S) ∧ ((F371_0_148 q1 S) = 0 → ((G371_0_148 q1 S) 148 0) = (if ((zb (¬ ((¬ (q1 < 1)) ∧ (¬ (50 < q1))))) = 0) then (((K321_15_S q1 0 (z_up T 13 0 (zb (¬ ((¬ (q1 < 1)) ∧ (¬ (50 < q1))))))) 13 1) : Int32) else 0)) := (zrq53 q1 hn h).1
theorem zyt53_Key {n : Nat} {S T : zS} (q1 : Int32) (hn : n < 512) (h : zR n S T) : zKey (n + 1) (G371_0_148 q1 S) (M53 q1 T) := zR_Key (zrq53 q1 hn h).2
theorem zyt53_Eng {n : Nat} {S T : zS} (q1 : Int32) (hn : n < 512) (h : zR n S T) : zEng (G371_0_148 q1 S) (M53 q1 T) := zR_Eng (zrq53 q1 hn h).2
theorem zyt53_Tok {n : Nat} {S T : zS} (q1 : Int32) (hn : n < 512) (h : zR n S T) : zTok (G371_0_148 q1 S) (M53 q1 T) := zR_Tok (zrq53 q1 hn h).2
theorem zyt53_Lea {n : Nat} {S T : zS} (q1 : Int32) (hn : n < 512) (h : zR n S T) : zLea (G371_0_148 q1 S) (M53 q1 T) := zR_Lea (zrq53 q1 hn h).2
theorem zyt53_LT {n : Nat} {S T : zS} (q1 : Int32) (hn : n < 512) (h : zR n S T) : zLT (G371_0_148 q1 S) (M53 q1 T) := zR_LT (zrq53 q1 hn h).2
theorem zyt53_Use {n : Nat} {S T : zS} (q1 : Int32) (hn : n < 512) (h : zR n S T) : zUse (G371_0_148 q1 S) (M53 q1 T) := zR_Use (zrq53 q1 hn h).2
