/-! certificates, the far site, mounting, the seal -/
theorem jq176 {n : Nat} {S : zS} (h : jI n S) {a : Int32} (ha : 0 ≤ a.toInt ∧ a.toInt < (S 11 0).toInt) : jI n (B176 a S) ∧ A176 a S = zb (S 75 a.toNatClampNeg = 0) ∧ B176 a S 75 a.toNatClampNeg = 1 ∧ B176 a S 11 = S 11 ∧ B176 a S 0 = S 0 ∧ B176 a S 73 = S 73 ∧ B176 a S 74 = S 74 ∧ B176 a S 76 = S 76 := by
  have hp := p_B176 a S
  have hC := jI_Cer h
  have hna := zk_nat ha.1
  have hnc := zk_nat (rCer_0 hC).1
  have kC : jCer (B176 a S) := by
    unfold jCer at hC ⊢
    unfold B176
    obtain ⟨c1, c2, c3, c4, c5, c6⟩ := hC
    simp only [zup1, Nat.reduceEqDiff, reduceIte, upd_r]
    refine ⟨c1, c2, c3, fun c => ?_, c5, fun c hc => ?_⟩
    · split
      · exact Or.inr rfl
      · exact c4 c
    · rw [if_neg (by omega)]; exact c6 c hc
  exact ⟨(by unfold jI; exact ⟨(jSea_k rfl hp (jI_Sea h)), (jKey_k rfl hp (jI_Key h)), (jEng_k rfl hp (jI_Eng h)), (jPpl_k rfl hp (jI_Ppl h)), (jTok_k rfl hp (jI_Tok h)), (jTim_k rfl hp (jI_Tim h)), (jUse_k rfl hp (jI_Use h)), (jLea_k rfl hp (jI_Lea h)), (jEnd_k rfl hp (jI_End h)), (jLT_k rfl hp (jI_LT h)), (jCnt_k rfl hp (jI_Cnt h)), (jSto_k rfl hp (jI_Sto h)), (jFar_k rfl hp (jI_Far h)), (jWra_k rfl hp (jI_Wra h)), (jCas_k rfl hp (jI_Cas h)), kC, (jSin_k rfl hp (jI_Sin h))⟩), rfl, zup_s _ _ _ _, hp.1 11 rfl, hp.1 0 rfl, hp.1 73 rfl, hp.1 74 rfl, hp.1 76 rfl⟩
theorem jq177 {n : Nat} {S : zS} (h : jI n S) : jI n (B177 S) ∧ 0 ≤ (A177 S).toInt ∧ (∀ i, i < (S 11 0).toNatClampNeg → ¬ S 75 i = 0 → ¬ S 73 i ≤ S 0 11 → 1 ≤ (A177 S).toInt ∧ B177 S 76 i = 1) := by
  have hp := p_B177 S
  have hC := jI_Cer h
  have h0 := rCer_0 hC
  have hcl := zn_cl h0
  have key : (jCer (B177 S) ∧ 0 ≤ (A177 S).toInt ∧ (A177 S).toInt ≤ ((S 11 0).toNatClampNeg - 0 : Nat) ∧ zkp [76] [] S (B177 S) ∧ (∀ i, i < (S 11 0).toNatClampNeg - 0 → ¬ S 75 i = 0 → ¬ S 73 i ≤ S 0 11 → 1 ≤ (A177 S).toInt ∧ B177 S 76 i = 1)) := by
    unfold A177 B177 K6_4_c2 K6_4_S K6_4
    exact zfold_inv (f := k6_4 (S 0 11)) (i := 0) (n := (S 11 0).toNatClampNeg - 0) (a := ((0 : Int32), S)) (I := fun j (c : Int32 × zS) => jCer c.2 ∧ 0 ≤ c.1.toInt ∧ c.1.toInt ≤ (j : Nat) ∧ zkp [76] [] S c.2 ∧ (∀ i, i < j → ¬ S 75 i = 0 → ¬ S 73 i ≤ S 0 11 → 1 ≤ c.1.toInt ∧ c.2 76 i = 1)) ⟨hC, Int.le_refl _, Int.le_refl _, zkp_S, fun i hi => absurd hi (Nat.not_lt_zero _)⟩ (fun j c hj hI => by
      obtain ⟨i1, i2, i3, i4, i5⟩ := hI
      rw [Nat.zero_add]
      unfold k6_4
      rw [i4.1 75 rfl, i4.1 73 rfl]
      have e1 : (c.1 + 1).toInt = c.1.toInt + 1 := by rw [zk_tadd (by rw [zk_1]; omega) (by rw [zk_1]; omega), zk_1]
      have kC : ∀ v : Int32, zo v → jCer (z_up c.2 76 j v) := fun v hv => by
        unfold jCer at i1 ⊢
        obtain ⟨c1, c2, c3, c4, c5, c6⟩ := i1
        simp only [zup1, Nat.reduceEqDiff, reduceIte, upd_r]
        refine ⟨c1, c2, c3, c4, fun q => ?_, fun q hq => ?_⟩
        · split
          · exact hv
          · exact c5 q
        · rw [i4.1 11 rfl] at hq
          rw [if_neg (by omega)]; exact c6 q (by rw [i4.1 11 rfl]; exact hq)
      refine ⟨kC _ (zb_01 _), ?_, ?_, zkp_up i4 rfl rfl, fun i hi q1 q2 => ?_⟩
      · dsimp only; split
        · rw [e1]; omega
        · exact i2
      · dsimp only; split
        · rw [e1]; omega
        · omega
      · dsimp only
        by_cases hij : i = j
        · subst hij
          rw [if_pos ⟨q1, q2⟩, e1, zup_s]
          exact ⟨by omega, (zb_1 _).mpr ⟨q1, q2⟩⟩
        · obtain ⟨u1, u2⟩ := i5 i (by omega) q1 q2
          rw [zup2, if_pos rfl, if_neg hij]
          refine ⟨?_, u2⟩
          split
          · rw [e1]; omega
          · exact u1)
  obtain ⟨k1, k2, _, _, k5⟩ := key
  exact ⟨(by unfold jI; exact ⟨(jSea_k rfl hp (jI_Sea h)), (jKey_k rfl hp (jI_Key h)), (jEng_k rfl hp (jI_Eng h)), (jPpl_k rfl hp (jI_Ppl h)), (jTok_k rfl hp (jI_Tok h)), (jTim_k rfl hp (jI_Tim h)), (jUse_k rfl hp (jI_Use h)), (jLea_k rfl hp (jI_Lea h)), (jEnd_k rfl hp (jI_End h)), (jLT_k rfl hp (jI_LT h)), (jCnt_k rfl hp (jI_Cnt h)), (jSto_k rfl hp (jI_Sto h)), (jFar_k rfl hp (jI_Far h)), (jWra_k rfl hp (jI_Wra h)), (jCas_k rfl hp (jI_Cas h)), k1, (jSin_k rfl hp (jI_Sin h))⟩), k2, fun i hi => k5 i (by omega)⟩
/-- shipping -/
theorem jP_head {pa ke : Nat → Int32} {p a : Nat} : ∀ m, jP pa ke p a (m + 1) = (if pa a = Int32.ofNat p ∧ ¬ ke a = 0 then 1 else 0) + jP pa ke p (a + 1) m
  | 0 => by unfold jP; unfold jP; simp only [Nat.add_zero, Nat.zero_add]
  | m + 1 => by
    have ih := jP_head (pa := pa) (ke := ke) (p := p) (a := a) m
    have e1 : jP pa ke p a (m + 1 + 1) = jP pa ke p a (m + 1) + (if pa (a + (m + 1)) = Int32.ofNat p ∧ ¬ ke (a + (m + 1)) = 0 then 1 else 0) := rfl
    have e2 : jP pa ke p (a + 1) (m + 1) = jP pa ke p (a + 1) m + (if pa (a + 1 + m) = Int32.ofNat p ∧ ¬ ke (a + 1 + m) = 0 then 1 else 0) := rfl
    rw [e1, e2, ih, show a + (m + 1) = a + 1 + m by omega]
    omega
theorem jship1 {n : Nat} {S : zS} (hn : n < 500) (h : jFar n S) (hS : jSto n S) (hlt : (S 8 6).toInt < (S 8 5).toInt) : jFar n (z_up (G21 (S 8 6) S) 8 6 (((G21 (S 8 6) S) 8 6) + 1)) ∧ (z_up (G21 (S 8 6) S) 8 6 (((G21 (S 8 6) S) 8 6) + 1)) 8 6 = (S 8 6) + 1 := by
  have kg := p_G21 (S 8 6) S
  have g86 : G21 (S 8 6) S 8 6 = S 8 6 := congrFun (kg.1 8 rfl) 6
  rw [g86]
  refine ⟨?_, zup_s _ _ _ _⟩
  have hp : zkp [59, 60, 61, 62, 8] [8006] S (z_up (G21 (S 8 6) S) 8 6 ((S 8 6) + 1)) := zkp_upf (zkp_tr zkp_S kg rfl rfl) rfl rfl
  unfold jFar at h ⊢
  obtain ⟨h1, h2, h3, h4, h5⟩ := h
  have e := jk_p _ h2 (by omega)
  have hn1 := zk_nat h1.1
  have hn2 := zk_nat h2.1
  have hn3 := zk_nat (x := (S 8 6) + 1) (by unfold zn at h2; omega)
  have r5 : z_up (G21 (S 8 6) S) 8 6 ((S 8 6) + 1) 8 5 = S 8 5 := hp.2 8 5 rfl rfl
  have r6 : z_up (G21 (S 8 6) S) 8 6 ((S 8 6) + 1) 8 6 = (S 8 6) + 1 := zup_s _ _ _ _
  have r59 : z_up (G21 (S 8 6) S) 8 6 ((S 8 6) + 1) 59 = G21 (S 8 6) S 59 := zupc rfl
  rw [r5, r6, r59, hp.1 51 rfl, hp.1 55 rfl, hp.1 58 rfl]
  refine ⟨h1, by unfold zn at *; omega, by omega, h4, fun p hpp => ?_⟩
  obtain ⟨f1, f2⟩ := h5 p hpp
  have em : (S 8 5).toNatClampNeg - (S 8 6).toNatClampNeg = ((S 8 5).toNatClampNeg - ((S 8 6) + 1).toNatClampNeg) + 1 := by omega
  rw [em, jP_head] at f2
  have en : ((S 8 6) + 1).toNatClampNeg = (S 8 6).toNatClampNeg + 1 := by omega
  rw [en] at f2 ⊢
  have hpa := zx_iff.mp (h4 (S 8 6).toNatClampNeg (by unfold zn at h1; omega))
  have hno := zk_of hpa.1
  have hnp := zk_nat hpa.1
  have h51 := (rSto_0 hS) p hpp
  unfold G21
  by_cases c0 : S 58 (S 8 6).toNatClampNeg = 0
  · rw [if_pos c0]
    rw [if_neg (show ¬ (S 55 (S 8 6).toNatClampNeg = Int32.ofNat p ∧ ¬ S 58 (S 8 6).toNatClampNeg = 0) from fun e9 => e9.2 c0)] at f2
    have r : (if ((F107_9 (S 55 (S 8 6).toNatClampNeg) (S 56 (S 8 6).toNatClampNeg) S) = (-1)) then S else (if ((S 57 (S 8 6).toNatClampNeg) = 2) then (z_up (z_up S 62 (F107_9 (S 55 (S 8 6).toNatClampNeg) (S 56 (S 8 6).toNatClampNeg) S).toNatClampNeg (S 57 (S 8 6).toNatClampNeg)) 60 (F107_9 (S 55 (S 8 6).toNatClampNeg) (S 56 (S 8 6).toNatClampNeg) S).toNatClampNeg (-1)) else (z_up S 62 (F107_9 (S 55 (S 8 6).toNatClampNeg) (S 56 (S 8 6).toNatClampNeg) S).toNatClampNeg (S 57 (S 8 6).toNatClampNeg)))) 59 = S 59 := by
      split
      · rfl
      · split <;> simp only [zup1, Nat.reduceEqDiff, reduceIte]
    rw [r]; exact ⟨f1, by omega⟩
  · rw [if_neg c0]
    have hpr := (rSto_0 hS) (S 55 (S 8 6).toNatClampNeg).toNatClampNeg (by omega)
    obtain ⟨g1, g2⟩ := h5 (S 55 (S 8 6).toNatClampNeg).toNatClampNeg (by omega)
    have r59 : G108_9 (S 55 (S 8 6).toNatClampNeg) (S 57 (S 8 6).toNatClampNeg) (S 58 (S 8 6).toNatClampNeg) S 59 = upd (S 59) (S 55 (S 8 6).toNatClampNeg).toNatClampNeg ((S 59 (S 55 (S 8 6).toNatClampNeg).toNatClampNeg) + 1) := by simp only [G108_9, zup1, Nat.reduceEqDiff, reduceIte]
    have e59 : ((S 59 (S 55 (S 8 6).toNatClampNeg).toNatClampNeg) + 1).toInt = (S 59 (S 55 (S 8 6).toNatClampNeg).toNatClampNeg).toInt + 1 := by unfold zn at hpr; rw [zk_tadd (by rw [zk_1]; omega) (by rw [zk_1]; omega), zk_1]
    rw [r59, upd_r]
    by_cases hpe : p = (S 55 (S 8 6).toNatClampNeg).toNatClampNeg
    · rw [if_pos hpe, e59, ← hpe]
      rw [if_pos (show S 55 (S 8 6).toNatClampNeg = Int32.ofNat p ∧ ¬ S 58 (S 8 6).toNatClampNeg = 0 from ⟨by rw [hpe]; exact hno.symm, c0⟩)] at f2
      exact ⟨by omega, by omega⟩
    · rw [if_neg hpe]
      rw [if_neg (show ¬ (S 55 (S 8 6).toNatClampNeg = Int32.ofNat p ∧ ¬ S 58 (S 8 6).toNatClampNeg = 0) from fun e9 => hpe (by rw [e9.1, zk_ix p (by omega)]))] at f2
      exact ⟨f1, by omega⟩
theorem jq182 {n : Nat} {S : zS} (hn : n < 500) (h : jI n S) {a : Int32} (ha : 1 ≤ a.toInt ∧ a.toInt ≤ 100) : jI n (B182 a S) ∧ 0 ≤ (A182 a S).toInt ∧ (A182 a S).toInt = (S 8 5).toInt - (S 8 6).toInt - (if a.toInt ≤ (S 8 5).toInt - (S 8 6).toInt then a.toInt else (S 8 5).toInt - (S 8 6).toInt) ∧ (B182 a S 8 5).toInt - (B182 a S 8 6).toInt = (A182 a S).toInt := by
  have hp := p_B182 a S
  have hF := jI_Far h
  have h1 := rFar_0 hF
  have h2 := rFar_1 hF
  have h3 := rFar_2 hF
  have hn1 := zk_nat h1.1
  have hn2 := zk_nat h2.1
  have hna := zk_nat (x := a) (by omega)
  have key : jFar n (B182 a S) ∧ ((B182 a S) 8 6).toInt = (S 8 6).toInt + (min (a.toNatClampNeg - 0) ((S 8 5).toNatClampNeg - (S 8 6).toNatClampNeg) : Nat) := by
    unfold B182 K17_2_S K17_2
    have k := zfold_inv (f := k17_2 a) (i := 0) (n := min (a.toNatClampNeg - 0) ((S 8 5).toNatClampNeg - (S 8 6).toNatClampNeg)) (a := S) (I := fun j (c : zS) => jFar n c ∧ (c 8 6).toInt = (S 8 6).toInt + (j : Nat) ∧ zkp [59, 60, 61, 62, 8] [8006] S c) ⟨hF, by simp, zkp_S⟩ (fun j c hj hI => by
      obtain ⟨i1, i2, i3⟩ := hI
      unfold k17_2
      have c85 : c 8 5 = S 8 5 := i3.2 8 5 rfl rfl
      obtain ⟨w1, w2⟩ := jship1 hn i1 (jSto_k rfl i3 (jI_Sto h)) (by rw [c85]; omega)
      refine ⟨w1, ?_, zkp_upf (zkp_tr i3 (p_G21 (c 8 6) c) rfl rfl) rfl rfl⟩
      rw [w2, jk_p _ (rFar_1 i1) (by omega), i2]; omega)
    exact ⟨k.1, k.2.1⟩
  obtain ⟨k1, k2⟩ := key
  have r5 : B182 a S 8 5 = S 8 5 := hp.2 8 5 rfl rfl
  have hA : A182 a S = B182 a S 8 5 - B182 a S 8 6 := rfl
  unfold zn at h1 h2
  have eA : (A182 a S).toInt = (S 8 5).toInt - (B182 a S 8 6).toInt := by rw [hA, r5, zk_tsub (by omega) (by omega)]
  refine ⟨(by unfold jI; exact ⟨(jSea_k rfl hp (jI_Sea h)), (jKey_k rfl hp (jI_Key h)), (jEng_k rfl hp (jI_Eng h)), (jPpl_k rfl hp (jI_Ppl h)), (jTok_k rfl hp (jI_Tok h)), (jTim_k rfl hp (jI_Tim h)), (jUse_k rfl hp (jI_Use h)), (jLea_k rfl hp (jI_Lea h)), (jEnd_k rfl hp (jI_End h)), (jLT_k rfl hp (jI_LT h)), (jCnt_k rfl hp (jI_Cnt h)), (jSto_k rfl hp (jI_Sto h)), k1, (jWra_k rfl hp (jI_Wra h)), (jCas_k rfl hp (jI_Cas h)), (jCer_k rfl hp (jI_Cer h)), (jSin_k rfl hp (jI_Sin h))⟩), by rw [eA]; omega, ?_, by rw [eA, r5]⟩
  rw [eA, k2]
  split <;> omega
/-- the seal closes -/
theorem jq134 {n : Nat} {S : zS} (h : jI n S) : jI n (B134 S) ∧ B134 S 1 6 = 0 := by
  have hp := p_B134 S
  have hK := p_K95_2_S 0 (z_up (z_up S 1 6 0) 1 7 0)
  have r16 : B134 S 1 6 = 0 := by
    unfold B134
    rw [zup2, if_pos rfl, if_neg (by decide), hK.1 1 rfl]
    simp only [zup2, Nat.reduceEqDiff, reduceIte]
  have r15 : ∀ i, i < 7 → B134 S 15 i = -1 := by
    unfold B134 K95_2_S K95_2
    intro i hi
    rw [zupci rfl]
    exact (zfold_inv (f := k95_2) (i := 0) (n := 7 - 0) (a := z_up (z_up S 1 6 0) 1 7 0) (I := fun j (c : zS) => ∀ i, i < j → c 15 i = -1) (fun i hi => absurd hi (Nat.not_lt_zero _)) (fun j c hj hI i hi => by
      rw [Nat.zero_add]
      unfold k95_2
      rw [zup2, if_pos rfl]
      split
      · rfl
      · exact hI i (by omega))) i (by omega)
  have kS : jSea (B134 S) := by
    have hS := jI_Sea h
    unfold jSea at hS ⊢
    rw [r16, hp.2 1 1 rfl rfl, hp.2 1 2 rfl rfl, hp.2 1 0 rfl rfl, hp.1 14 rfl]
    exact ⟨Or.inl rfl, hS.2.1, hS.2.2.1, r15, by unfold B134; exact zup_s _ _ _ _, hS.2.2.2.2.2⟩
  exact ⟨(by unfold jI; exact ⟨kS, (jKey_k rfl hp (jI_Key h)), (jEng_k rfl hp (jI_Eng h)), (jPpl_k rfl hp (jI_Ppl h)), (jTok_k rfl hp (jI_Tok h)), (jTim_k rfl hp (jI_Tim h)), (jUse_k rfl hp (jI_Use h)), (jLea_k rfl hp (jI_Lea h)), (jEnd_k rfl hp (jI_End h)), (jLT_k rfl hp (jI_LT h)), (jCnt_k rfl hp (jI_Cnt h)), (jSto_k rfl hp (jI_Sto h)), (jFar_k rfl hp (jI_Far h)), (jWra_k rfl hp (jI_Wra h)), (jCas_k rfl hp (jI_Cas h)), (jCer_k rfl hp (jI_Cer h)), (jSin_k rfl hp (jI_Sin h))⟩), r16⟩
