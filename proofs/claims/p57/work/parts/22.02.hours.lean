/-! an hour begins -/
def jTix (d : Int) (S : zS) : Prop := ∀ j, j < (S 5 0).toNatClampNeg → S 40 j = 0 → (S 0 11).toInt < (S 34 j).toInt + d ∧ (¬ S 31 j = 2 → (S 34 j).toInt ≤ (S 35 j).toInt)
theorem jTix_0 {S : zS} : jTix 0 S ↔ jTim S := by
  unfold jTix jTim
  simp only [Int.add_zero]
theorem jw210 {n : Nat} {S : zS} (hn : n < 1000) (hT : jTok S) (hL : jL n 1 S) (hLT : jLT S) (hU : jUse S) (hTi : jTix 1 S) : zkp [40, 44, 46, 47, 49] [] S (K210_11_S 0 S) ∧ jTok (K210_11_S 0 S) ∧ jL n 1 (K210_11_S 0 S) ∧ jLT (K210_11_S 0 S) ∧ jUse (K210_11_S 0 S) ∧ jTim (K210_11_S 0 S) ∧ (∀ i, K210_11_S 0 S 40 i = 0 → S 40 i = 0) ∧ (∀ i, K210_11_S 0 S 46 i = 0 → S 46 i = 0) := by
  unfold K210_11_S K210_11
  have hcl := zn_cl (rTok_0 hT)
  have hnt := zk_nat (rTok_0 hT).1
  have key := zfold_inv (f := k210_11) (i := 0) (n := (S 5 0).toNatClampNeg - 0) (a := S) (I := fun j (c : zS) => zkp [40, 44, 46, 47, 49] [] S c ∧ jTok c ∧ jL n 1 c ∧ jLT c ∧ jUse c ∧ jTix 1 c ∧ (∀ i, c 40 i = 0 → S 40 i = 0) ∧ (∀ i, c 46 i = 0 → S 46 i = 0) ∧ (∀ i, i < j → c 40 i = 0 → ¬ S 34 i = S 0 11)) ⟨zkp_S, hT, hL, hLT, hU, hTi, fun _ e => e, fun _ e => e, fun i hi => absurd hi (Nat.not_lt_zero _)⟩ (fun j c hj hI => by
    obtain ⟨k, i1, i2, i3, i4, i5, i6, i7, i8⟩ := hI
    rw [Nat.zero_add]
    unfold k210_11
    rw [k.1 34 rfl, k.1 0 rfl]
    by_cases c0 : c 40 j = 0
    · by_cases c1 : S 34 j = S 0 11
      · simp only [if_pos c0, if_pos c1]
        have ej := zk_ti j (by omega)
        have ex := zk_ix j (by omega)
        have k5 : c 5 0 = S 5 0 := congrFun (k.1 5 rfl) 0
        have hp := p_G200 (Int32.ofNat j) c
        obtain ⟨w1, w2, w3, w4, w5, w6, _⟩ := jdie hn i1 i2 (jLw_of i3) (a := Int32.ofNat j) (by omega) (by rw [k5]; omega)
        rw [ex] at w4
        refine ⟨zkp_tr k hp rfl rfl, w1, w2, w3, ?_, ?_, fun i e => i6 i (w5 i e), fun i e => i7 i (w6 i e), fun i hi e => ?_⟩
        · unfold jUse at i4 ⊢
          rw [hp.1 5 rfl, hp.1 37 rfl]
          exact fun i hi e => i4 i hi (w5 i e)
        · unfold jTix at i5 ⊢
          rw [hp.1 5 rfl, hp.1 0 rfl, hp.1 34 rfl, hp.1 31 rfl, hp.1 35 rfl]
          exact fun i hi e => i5 i hi (w5 i e)
        · by_cases hij : i = j
          · subst hij; exact absurd e w4
          · exact i8 i (by omega) (w5 i e)
      · simp only [if_pos c0, if_neg c1]
        refine ⟨k, i1, i2, i3, i4, i5, i6, i7, fun i hi e => ?_⟩
        by_cases hij : i = j
        · subst hij; exact c1
        · exact i8 i (by omega) e
    · simp only [if_neg c0]
      refine ⟨k, i1, i2, i3, i4, i5, i6, i7, fun i hi e => ?_⟩
      by_cases hij : i = j
      · subst hij; exact absurd e c0
      · exact i8 i (by omega) e)
  obtain ⟨k, i1, i2, i3, i4, i5, i6, i7, i8⟩ := key
  refine ⟨k, i1, i2, i3, i4, ?_, i6, i7⟩
  unfold jTim
  unfold jTix at i5
  intro j hj e
  obtain ⟨e1, e2⟩ := i5 j hj e
  refine ⟨?_, e2⟩
  have e3 := i8 j (by rw [k.1 5 rfl] at hj; omega) e
  rw [k.1 34 rfl, k.1 0 rfl] at e1 ⊢
  have e4 : ¬ (S 34 j).toInt = (S 0 11).toInt := fun q => e3 (zk_eq.mpr q)
  omega
theorem G210_e (S : zS) : G210 S = K57_2_S 0 (K56_2_S ((K55_2_S ((K210_11_S 0 (K13_2_S 0 (z_up S 0 11 ((S 0 11) + 1)))) 0 11) 0 (K210_11_S 0 (K13_2_S 0 (z_up S 0 11 ((S 0 11) + 1))))) 0 11) 0 (K55_2_S ((K210_11_S 0 (K13_2_S 0 (z_up S 0 11 ((S 0 11) + 1)))) 0 11) 0 (K210_11_S 0 (K13_2_S 0 (z_up S 0 11 ((S 0 11) + 1)))))) := rfl
theorem jhour {n : Nat} {S : zS} (hn : n < 1000) (h : jI n S) (hh : (S 0 11).toInt < 50 * n) : jI n (G210 S) ∧ ((G210 S) 0 11).toInt = (S 0 11).toInt + 1 := by
  have hJ := jI_J h
  have hK := jI_Key h
  have h0 := (rKey_0 hK).1
  have hn1 := hn
  have e11 : ((S 0 11) + 1).toInt = (S 0 11).toInt + 1 := by rw [zk_tadd (by rw [zk_1]; omega) (by rw [zk_1]; omega), zk_1]
  have hp := p_G210 S
  rw [G210_e] at hp ⊢
  have k1 : zkp [0] [11] S (z_up S 0 11 ((S 0 11) + 1)) := zkp_upf zkp_S rfl rfl
  have k2 : zkp [0, 19] [11] S (K13_2_S 0 (z_up S 0 11 ((S 0 11) + 1))) := zkp_tr (zkp_tr zkp_S k1 rfl rfl) (p_K13_2_S 0 (z_up S 0 11 ((S 0 11) + 1))) rfl rfl
  have b11 : K13_2_S 0 (z_up S 0 11 ((S 0 11) + 1)) 0 11 = (S 0 11) + 1 := by
    rw [(p_K13_2_S 0 (z_up S 0 11 ((S 0 11) + 1))).1 0 rfl, zup_s]
  generalize hA : K13_2_S 0 (z_up S 0 11 ((S 0 11) + 1)) = A at *
  have hL : jL n 1 A := ⟨jLea_k rfl k2 (jI_Lea h), by
    have := jI_End h
    unfold jEnx
    unfold jEnd at this
    rw [k2.1 6 rfl, b11, k2.1 44 rfl, k2.1 45 rfl, k2.1 46 rfl, e11]
    exact fun j hj => ⟨fun e => ⟨by have := ((this j hj).1 e).1; omega, ((this j hj).1 e).2⟩, fun e => by have := (this j hj).2 e; omega⟩, jCnt_k rfl k2 (jI_Cnt h)⟩
  have hTi : jTix 1 A := by
    have := jI_Tim h
    unfold jTix
    unfold jTim at this
    rw [k2.1 5 rfl, b11, k2.1 34 rfl, k2.1 31 rfl, k2.1 35 rfl, k2.1 40 rfl, e11]
    exact fun j hj e => ⟨by have := (this j hj e).1; omega, (this j hj e).2⟩
  obtain ⟨c1, c2, c3, c4, c5, c6, c7, c8⟩ := jw210 hn (jTok_k rfl k2 (jI_Tok h)) hL (jLT_k rfl k2 (jI_LT h)) (jUse_k rfl k2 (jI_Use h)) hTi
  generalize hB : K210_11_S 0 A = B at *
  obtain ⟨d1, d2⟩ := jw55 hn c3 (x := B 0 11) rfl
  have dk := p_K55_2_S (B 0 11) 0 B
  generalize hC : K55_2_S (B 0 11) 0 B = C at *
  obtain ⟨e1, e2⟩ := jw56 hn d1 (x := C 0 11) rfl
  have ek := p_K56_2_S (C 0 11) 0 C
  generalize hD : K56_2_S (C 0 11) 0 C = D at *
  have f1 := jw57 hn (rLea_0 e1.1) e1.2.2
  have fk := p_K57_2_S 0 D
  have b2 : K57_2_S 0 D 0 11 = (S 0 11) + 1 := by rw [fk.1 0 rfl, ek.1 0 rfl, dk.1 0 rfl, c1.1 0 rfl]; exact b11
  have kBD : zkp [44, 46, 47, 49, 50] [] B (K57_2_S 0 D) := zkp_tr (zkp_tr (zkp_tr zkp_S dk rfl rfl) ek rfl rfl) fk rfl rfl
  have kLT : jLT (K57_2_S 0 D) := jLT_mono (congrFun (kBD.1 6 rfl) 0) (congrFun (kBD.1 5 rfl) 0) (kBD.1 40 rfl) (kBD.1 41 rfl) (fun i e => by rw [fk.1 46 rfl] at e; exact d2 i (e2 i e)) c4
  refine ⟨?_, by rw [b2, e11]⟩
  unfold jI
  refine ⟨(jSea_k rfl hp (jI_Sea h)), ?_, (jEng_k rfl hp (jI_Eng h)), (jPpl_k rfl hp (jI_Ppl h)), (jTok_k rfl kBD c2), (jTim_k rfl kBD c6), (jUse_k rfl kBD c5), (jLea_k rfl fk e1.1), (jEnd_k rfl fk (jEnx_0.mp e1.2.1)), kLT, f1, (jSto_k rfl hp (jI_Sto h)), (jFar_k rfl hp (jI_Far h)), (jWra_k rfl hp (jI_Wra h)), (jCas_k rfl hp (jI_Cas h)), (jCer_k rfl hp (jI_Cer h)), (jSin_k rfl hp (jI_Sin h))⟩
  unfold jKey at hK ⊢
  rw [b2, hp.1 2 rfl]
  exact ⟨by unfold zn; rw [e11]; omega, hK.2⟩
theorem jpass {n : Nat} {S : zS} {a : Int32} (hn : n < 1000) (h : jI n S) (h0 : 0 ≤ a.toInt) (hh : (S 0 11).toInt + a.toInt ≤ 50 * n) : jI n (K184_7_S a 0 S) ∧ ((K184_7_S a 0 S) 0 11).toInt = (S 0 11).toInt + a.toInt := by
  unfold K184_7_S K184_7
  have hna := zk_nat h0
  have key := zfold_inv (f := k184_7 a) (i := 0) (n := a.toNatClampNeg - 0) (a := S) (I := fun j (c : zS) => jI n c ∧ (c 0 11).toInt = (S 0 11).toInt + (j : Nat)) ⟨h, by simp⟩ (fun j c hj hI => by
    unfold k184_7
    obtain ⟨w1, w2⟩ := jhour hn hI.1 (by rw [hI.2]; omega)
    exact ⟨w1, by rw [w2, hI.2]; omega⟩)
  exact ⟨key.1, by rw [key.2]; omega⟩
