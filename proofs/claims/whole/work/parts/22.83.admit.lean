/-! admission and conclusion of a request (wip/whole/gen/gen83.py) -/
theorem zsn {S T : zS} (h : zSin S T) (a b c d : Int32) : (F101 S = 0) ↔ (K282_6_c5 a b c d 0 1 0 T = 0 ∨ K282_6_c6 a b c d 0 1 0 T = 0) := by
  obtain ⟨e1, e2, -, -, z1, z2⟩ := h
  unfold F101 K282_6_c5 K282_6_c6 K282_6
  rw [zf3, e1, e2]
  simp only [k282_6]
  have a0 := z1 0
  have a1 := z1 1
  have a2 := z1 2
  have b0 := z2 0
  have b1 := z2 1
  have b2 := z2 2
  clear z1 z2 e1 e2
  generalize T 144 0 = x0 at *
  generalize T 144 1 = x1 at *
  generalize T 144 2 = x2 at *
  generalize T 145 0 = y0 at *
  generalize T 145 1 = y1 at *
  generalize T 145 2 = y2 at *
  rcases a0 with rfl | rfl <;> rcases a1 with rfl | rfl <;> rcases a2 with rfl | rfl <;> rcases b0 with rfl | rfl <;> rcases b1 with rfl | rfl <;> rcases b2 with rfl | rfl <;> decide
theorem zin {m a : Int32} (hm : zn 40 m) : ((m - 1) < a) = (m ≤ a) := zt_le (zn_mono hm (by decide))
theorem zin2 {m a : Int32} (hm : zn 40 m) (h : (¬ (a < 0)) ∧ (¬ (m ≤ a))) : 0 ≤ a.toInt ∧ a.toInt < m.toInt ∧ a.toNatClampNeg < m.toNatClampNeg ∧ (a.toNatClampNeg : Int) = a.toInt := by
  obtain ⟨h1, h2⟩ := h
  rw [zk_lt, zlt_0] at h1
  rw [zk_le] at h2
  have e1 := zk_nat (x := a) (by omega)
  have e2 := zk_nat hm.1
  omega
theorem ztell {S T : zS} (h : zSin S T) (h5 : S 5 0 = T 13 45) (hn : zn 40 (T 13 45)) (a b c d k : Int32) (hk : (if (c.toInt = 2) then (1 : Int32) else (if (c.toInt = 4) then (2 : Int32) else (if (c.toInt = 8) then (3 : Int32) else 0))) = k) : zSin (G102 (if ((¬ (a < 0)) ∧ (¬ ((S 5 0) ≤ a))) then (a : Int32) else 0) b c d S) (K283_16_S a b k d (if (0 ≤ d) then (d : Int32) else (60000 + d)) 0 T) := by
  unfold G102 K102_21_S K102_21 K283_16_S K283_16
  rw [hk, h5]
  refine (zfold_rel (I := fun x y => zSin x y ∧ y 13 45 = T 13 45) ⟨h, rfl⟩ (fun j x y hj hI => ?_)).1
  obtain ⟨hS, e13⟩ := hI
  have hS' := hS
  obtain ⟨e1, e2, e3, e4, z1, z2⟩ := hS
  unfold k102_21 k283_16
  rw [e1, e2, e3, e4, e13]
  simp only [zin hn]
  by_cases c0 : y 144 (0 + j) = 0
  · rw [if_pos c0, if_pos c0]; exact ⟨hS', e13⟩
  · rw [if_neg c0, if_neg c0]
    by_cases c1 : y 145 (0 + j) = 0
    · rw [if_pos c1, if_pos c1]
      refine ⟨?_, (zupci rfl).trans e13⟩
      unfold zSin
      simp only [zup1, e1, e2, e3, e4, not_false_eq_true, not_true_eq_false, Nat.reduceEqDiff, reduceIte, true_and, and_true, ite_true, ite_false, Int32.add_assoc]
      exact ⟨z1, z2⟩
    · rw [if_neg c1, if_neg c1]; exact ⟨hS', e13⟩
theorem zcon {n : Nat} {S T : zS} (h : zQ n S T) (a b c d k : Int32) (hk : (if (c.toInt = 2) then (1 : Int32) else (if (c.toInt = 4) then (2 : Int32) else (if (c.toInt = 8) then (3 : Int32) else 0))) = k) (hU : zUm a T) (hd : d = -2 ∨ d = -3 → zUse S T) : zR n (G197 a b c d S) (G283 a b k d T) := by
  have hT := zQ_Tok h
  have hn := hT.2.2.2.2.2.2.2.2.2.2.1
  have h5 : S 5 0 = T 13 45 := hT.1
  have idle : zUse S T → zR n S (if (((¬ (a < 0)) ∧ (¬ (((T 13 45) - 1) < a))) ∧ ((T 119 a.toNatClampNeg) = 0)) then (if ((T 117 a.toNatClampNeg) = 0) then (G264 a T) else T) else T) := by
    intro hu
    have hR := zQ_R h hu
    by_cases g : (((¬ (a < 0)) ∧ (¬ (((T 13 45) - 1) < a))) ∧ ((T 119 a.toNatClampNeg) = 0))
    · rw [if_pos g]
      have g2 := g.1
      rw [zin hn] at g2
      rw [if_neg (hu _ (zin2 hn g2).2.2.1 g.2)]
      exact hR
    · rw [if_neg g]; exact hR
  unfold G197 G283
  by_cases c2 : d = -2
  · simp only [if_pos c2]
    exact idle (hd (Or.inl c2))
  by_cases c3 : d = -3
  · simp only [if_neg c2, if_pos c3]
    exact idle (hd (Or.inr c3))
  simp only [if_neg c2, if_neg c3]
  have hSi := ztell (zQ_Sin h) h5 hn a b c d k hk
  have hpS := p_G102 (if ((¬ (a < 0)) ∧ (¬ ((S 5 0) ≤ a))) then (a : Int32) else 0) b c d S
  have hpT := p_K283_16_S a b k d (if (0 ≤ d) then (d : Int32) else (60000 + d)) 0 T
  generalize G102 (if ((¬ (a < 0)) ∧ (¬ ((S 5 0) ≤ a))) then (a : Int32) else 0) b c d S = S1 at *
  generalize K283_16_S a b k d (if (0 ≤ d) then (d : Int32) else (60000 + d)) 0 T = T1 at *
  have hQ1 : zQ n S1 T1 := ⟨(zSeal_kc rfl hpS (zSeal_km rfl hpT (zQ_Seal h))), (zKey_kc rfl hpS (zKey_km rfl hpT (zQ_Key h))), (zEng_kc rfl hpS (zEng_km rfl hpT (zQ_Eng h))), (zRul_kc rfl hpS (zRul_km rfl hpT (zQ_Rul h))), (zPpl_kc rfl hpS (zPpl_km rfl hpT (zQ_Ppl h))), (zTok_kc rfl hpS (zTok_km rfl hpT (zQ_Tok h))), (zLea_kc rfl hpS (zLea_km rfl hpT (zQ_Lea h))), (zLT_kc rfl hpS (zLT_km rfl hpT (zQ_LT h))), (zSto_kc rfl hpS (zSto_km rfl hpT (zQ_Sto h))), (zFar_kc rfl hpS (zFar_km rfl hpT (zQ_Far h))), (zLog_kc rfl hpS (zLog_km rfl hpT (zQ_Log h))), (zWra_kc rfl hpS (zWra_km rfl hpT (zQ_Wra h))), (zCas_kc rfl hpS (zCas_km rfl hpT (zQ_Cas h))), (zCer_kc rfl hpS (zCer_km rfl hpT (zQ_Cer h))), hSi⟩
  have t45 : T1 13 45 = T 13 45 := congrFun (hpT.1 13 rfl) 45
  have t119 : T1 119 = T 119 := hpT.1 119 rfl
  have t117 : T1 117 = T 117 := hpT.1 117 rfl
  have hT1 := zQ_Tok hQ1
  have s37 : S1 37 = T1 117 := hT1.2.2.2.2.2.2.1
  have s40 : S1 40 = T1 119 := hT1.2.2.2.2.2.2.2.2.2.1
  have hU1 : zUm a T1 := fun j hj e1 e2 => hU j (by rw [← t45]; exact hj) (by rw [← t119]; exact e1) (by rw [← t117]; exact e2)
  have hn1 : zn 40 (T1 13 45) := by rw [t45]; exact hn
  simp only [zin hn1]
  rw [t45, h5, s37]
  by_cases g : (¬ (a < 0)) ∧ (¬ ((T 13 45) ≤ a))
  · have g2 := zin2 hn g
    rw [if_pos g]
    by_cases gu : T1 117 a.toNatClampNeg = 0
    · rw [if_pos gu]
      by_cases gd : T1 119 a.toNatClampNeg = 0
      · rw [if_pos ⟨g, gd⟩, if_pos gu]
        obtain ⟨w1, -, w3⟩ := zdie hQ1 a g2.1 (by rw [t45]; exact g2.2.1)
        exact zQ_R w1 (w3 a hU1 (Or.inl rfl))
      · rw [if_neg (fun q => gd q.2)]
        have eS : G200 a S1 = S1 := by
          unfold G200
          rw [s40, if_neg gd]
          exact zdl_id (zQ_Lea hQ1) hT1 (zQ_LT hQ1) _
        rw [eS]
        refine zQ_R hQ1 (fun j hj e1 e2 => ?_)
        have e3 := hU1 j hj e1 e2
        have e4 : j = a.toNatClampNeg := by omega
        rw [e4] at e1
        exact gd e1
    · rw [if_neg gu]
      have hu1 : zUse S1 T1 := fun j hj e1 e2 => by
        have e3 := hU1 j hj e1 e2
        have e4 : j = a.toNatClampNeg := by omega
        rw [e4] at e2
        exact gu e2
      by_cases gd : ((¬ (a < 0)) ∧ (¬ ((T 13 45) ≤ a))) ∧ T1 119 a.toNatClampNeg = 0
      · rw [if_pos gd, if_neg gu]; exact zQ_R hQ1 hu1
      · rw [if_neg gd]; exact zQ_R hQ1 hu1
  · rw [if_neg g, if_neg (fun q => g q.1)]
    refine zQ_R hQ1 (fun j hj e1 e2 => ?_)
    have e3 := hU1 j hj e1 e2
    rw [t45] at hj
    have e5 := zk_nat hn.1
    apply g
    rw [zk_lt, zlt_0, zk_le]
    omega
theorem zand1 (x : Int32) : x &&& 1 = 0 ∨ x &&& 1 = 1 := by
  have k1 : ∀ i, i < 32 → (1 : Int32).toBitVec.getLsbD i = decide (i = 0) := by decide
  by_cases h : x.toBitVec.getLsbD 0 = true
  · right
    apply zbe
    intro i hi
    rw [Int32.toBitVec_and, BitVec.getLsbD_and, k1 i hi]
    by_cases h0 : i = 0
    · subst h0; rw [h]; rfl
    · simp [h0]
  · left
    apply zbe
    intro i hi
    rw [Int32.toBitVec_and, BitVec.getLsbD_and, k1 i hi, zlsb0 i hi]
    by_cases h0 : i = 0
    · subst h0
      have h2 : x.toBitVec.getLsbD 0 = false := by
        cases hb : x.toBitVec.getLsbD 0 with
        | false => rfl
        | true => exact absurd hb h
      rw [h2]; rfl
    · simp [h0]
theorem zTok_u {S T : zS} (h : zTok S T) (i : Nat) (w : Int32) (hw : -1 ≤ w.toInt ∧ w.toInt ≤ 20) : zTok (z_up S 37 i w) (z_up T 117 i w) := by
  unfold zTok at h ⊢
  obtain ⟨k0, k1, k2, k3, k4, k5, k6, k7, k8, k9, k10, k11, k12, k13, k14, k15, k16, k17, k18, k19⟩ := h
  simp only [zup2, zup1, k0, k1, k2, k3, k4, k5, k6, k7, k8, k9, not_false_eq_true, not_true_eq_false, Nat.reduceEqDiff, reduceIte, true_and, and_true, ite_true, ite_false]
  refine ⟨k10, k11, k12, k13, k14, k15, k16, k17, ?_, k19⟩
  intro j
  split
  · exact hw
  · exact k18 j
theorem zEng_r {S T : zS} (h : zEng S T) (i : Nat) (w : Int32) : zEng (z_up S 19 i w) (z_up T 87 i w) := by
  unfold zEng at h ⊢
  obtain ⟨k0, k1, k2, k3, k4⟩ := h
  simp only [zup1, k0, k1, k2, k3, not_false_eq_true, not_true_eq_false, Nat.reduceEqDiff, reduceIte, true_and, and_true, ite_true, ite_false]
  exact k4
theorem zadm {n : Nat} {S T : zS} (h : zR n S T) (a b c d : Int32) (hc : zx 216 c) : F282 a b c d T = F196 a b c d S ∧ zQ n (G196 a b c d S) (G282 a b c d T) ∧ zUm a (G282 a b c d T) ∧ (F196 a b c d S = 0 ∨ ¬ (0 : Int32) ≤ F196 a b c d S) ∧ ((F196 a b c d S = -2 ∨ F196 a b c d S = -3) → zUse (G196 a b c d S) (G282 a b c d T)) ∧ (F196 a b c d S = 0 → 0 ≤ a.toInt ∧ a.toInt < (T 13 45).toInt ∧ (G282 a b c d T) 119 a.toNatClampNeg = 0) := by
  have hQ := zR_Q h
  have hU := zR_Use h
  have hT := zQ_Tok hQ
  have hn := hT.2.2.2.2.2.2.2.2.2.2.1
  have h5 : S 5 0 = T 13 45 := hT.1
  have s37 : S 37 = T 117 := hT.2.2.2.2.2.2.1
  have s38 : S 38 = T 116 := hT.2.2.2.2.2.2.2.1
  have s40 : S 40 = T 119 := hT.2.2.2.2.2.2.2.2.2.1
  have s6 : S 1 6 = T 13 2 := (zQ_Seal hQ).2.2.2.1
  have hs := zsn (zQ_Sin hQ) a b c d
  by_cases c0 : T 13 2 = 0
  · have e1 : F196 a b c d S = -2 := by unfold F196; rw [s6, if_pos c0]
    have e2 : G196 a b c d S = S := by unfold G196; rw [s6, if_pos c0]
    have e3 : F282 a b c d T = -2 := by unfold F282; rw [if_pos c0, if_pos c0]
    have e4 : G282 a b c d T = T := by unfold G282; rw [if_pos c0]
    rw [e1, e2, e3, e4]
    exact ⟨rfl, hQ, zUm_of hU a, Or.inr (by decide), fun _ => hU, fun e => absurd e (by decide)⟩
  by_cases c1 : F101 S = 0
  rotate_left
  · have k5 : ¬ K282_6_c5 a b c d 0 1 0 T = 0 := fun e => c1 (hs.mpr (Or.inl e))
    have k6 : ¬ K282_6_c6 a b c d 0 1 0 T = 0 := fun e => c1 (hs.mpr (Or.inr e))
    have e1 : F196 a b c d S = -3 := by unfold F196; rw [s6, if_neg c0, if_neg c1]
    have e2 : G196 a b c d S = S := by unfold G196; rw [s6, if_neg c0, if_neg c1]
    have e3 : F282 a b c d T = -3 := by unfold F282; simp only [if_neg c0, if_neg k5, if_neg k6]
    have e4 : G282 a b c d T = T := by unfold G282; simp only [if_neg c0, if_neg k5, if_neg k6]
    rw [e1, e2, e3, e4]
    exact ⟨rfl, hQ, zUm_of hU a, Or.inr (by decide), fun _ => hU, fun e => absurd e (by decide)⟩
  have hk := hs.mp c1
  have hX : ∀ {α : Type} (X Y : α), (if K282_6_c5 a b c d 0 1 0 T = 0 then X else (if K282_6_c6 a b c d 0 1 0 T = 0 then X else Y)) = X := by
    intro α X Y
    by_cases e5 : K282_6_c5 a b c d 0 1 0 T = 0
    · rw [if_pos e5]
    · rw [if_neg e5, if_pos (hk.resolve_left e5)]
  by_cases c2 : (((¬ (a < 0)) ∧ (¬ ((T 13 45) ≤ a))) ∧ (((T 119 a.toNatClampNeg) = 0) ∧ (((zshr (T 116 a.toNatClampNeg) b) &&& 1) = 1)))
  rotate_left
  · have e1 : F196 a b c d S = -4 := by unfold F196; rw [s6, if_neg c0, if_pos c1, h5, s40, s38, if_neg c2]
    have e2 : G196 a b c d S = S := by unfold G196; rw [s6, if_neg c0, if_pos c1, h5, s40, s38, if_neg c2]
    have e34 : F282 a b c d T = -4 ∧ G282 a b c d T = T := by
      unfold F282 G282
      simp only [if_neg c0, hX, zin hn]
      by_cases g : ((¬ (a < 0)) ∧ (¬ ((T 13 45) ≤ a))) ∧ T 119 a.toNatClampNeg = 0
      · rw [if_pos g, if_pos g]
        have g1 : ((zshr (T 116 a.toNatClampNeg) b) &&& 1) = 0 := (zand1 _).resolve_right (fun q => c2 ⟨g.1, g.2, q⟩)
        rw [if_pos g1, if_pos g1]
        exact ⟨rfl, rfl⟩
      · rw [if_neg g, if_neg g]
        exact ⟨rfl, rfl⟩
    rw [e1, e2, e34.1, e34.2]
    exact ⟨rfl, hQ, zUm_of hU a, Or.inr (by decide), fun _ => hU, fun e => absurd e (by decide)⟩
  obtain ⟨g0, g1, g2⟩ := c2
  have gi := zin2 hn g0
  have g3 : ¬ ((zshr (T 116 a.toNatClampNeg) b) &&& 1) = 0 := by rw [g2]; decide
  have gu := hU _ gi.2.2.1 g1
  have hr := hT.2.2.2.2.2.2.2.2.2.2.2.2.2.2.2.2.2.2.1 a.toNatClampNeg
  have hw : -1 ≤ (T 117 a.toNatClampNeg - zb (¬ T 117 a.toNatClampNeg = -1)).toInt ∧ (T 117 a.toNatClampNeg - zb (¬ T 117 a.toNatClampNeg = -1)).toInt ≤ 20 ∧ (if (T 117 a.toNatClampNeg) ≤ 0 then S else (z_up S 37 a.toNatClampNeg ((T 117 a.toNatClampNeg) - 1))) = z_up S 37 a.toNatClampNeg (T 117 a.toNatClampNeg - zb (¬ T 117 a.toNatClampNeg = -1)) := by
    by_cases e : T 117 a.toNatClampNeg = -1
    · rw [(show zb (¬ T 117 a.toNatClampNeg = -1) = 0 from if_neg (fun q => q e)), e]
      refine ⟨by decide, by decide, ?_⟩
      rw [if_pos (by decide)]
      exact (zup_id S 37 _ _ (by rw [s37, e]; decide)).symm
    · rw [(show zb (¬ T 117 a.toNatClampNeg = -1) = 1 from if_pos e)]
      have q1 : (T 117 a.toNatClampNeg).toInt ≠ -1 := fun q => e (zk_eq.mpr q)
      have q2 : (T 117 a.toNatClampNeg).toInt ≠ 0 := fun q => gu (zk_eq.mpr q)
      rw [zk_tsub (by rw [zk_1]; omega) (by rw [zk_1]; omega), zk_1, if_neg (by rw [zk_le, zlt_0]; omega)]
      exact ⟨by omega, by omega, rfl⟩
  generalize hwd : T 117 a.toNatClampNeg - zb (¬ T 117 a.toNatClampNeg = -1) = w at hw
  have hQ1 : zQ n (z_up S 37 a.toNatClampNeg w) (z_up T 117 a.toNatClampNeg w) := ⟨(zSeal_kc rfl (zkp_up (l := [37]) (fl := []) zkp_S rfl rfl) (zSeal_km rfl (zkp_up (l := [117]) (fl := []) zkp_S rfl rfl) (zQ_Seal hQ))), (zKey_kc rfl (zkp_up (l := [37]) (fl := []) zkp_S rfl rfl) (zKey_km rfl (zkp_up (l := [117]) (fl := []) zkp_S rfl rfl) (zQ_Key hQ))), (zEng_kc rfl (zkp_up (l := [37]) (fl := []) zkp_S rfl rfl) (zEng_km rfl (zkp_up (l := [117]) (fl := []) zkp_S rfl rfl) (zQ_Eng hQ))), (zRul_kc rfl (zkp_up (l := [37]) (fl := []) zkp_S rfl rfl) (zRul_km rfl (zkp_up (l := [117]) (fl := []) zkp_S rfl rfl) (zQ_Rul hQ))), (zPpl_kc rfl (zkp_up (l := [37]) (fl := []) zkp_S rfl rfl) (zPpl_km rfl (zkp_up (l := [117]) (fl := []) zkp_S rfl rfl) (zQ_Ppl hQ))), zTok_u hT _ w ⟨hw.1, hw.2.1⟩, (zLea_kc rfl (zkp_up (l := [37]) (fl := []) zkp_S rfl rfl) (zLea_km rfl (zkp_up (l := [117]) (fl := []) zkp_S rfl rfl) (zQ_Lea hQ))), (zLT_kc rfl (zkp_up (l := [37]) (fl := []) zkp_S rfl rfl) (zLT_km rfl (zkp_up (l := [117]) (fl := []) zkp_S rfl rfl) (zQ_LT hQ))), (zSto_kc rfl (zkp_up (l := [37]) (fl := []) zkp_S rfl rfl) (zSto_km rfl (zkp_up (l := [117]) (fl := []) zkp_S rfl rfl) (zQ_Sto hQ))), (zFar_kc rfl (zkp_up (l := [37]) (fl := []) zkp_S rfl rfl) (zFar_km rfl (zkp_up (l := [117]) (fl := []) zkp_S rfl rfl) (zQ_Far hQ))), (zLog_kc rfl (zkp_up (l := [37]) (fl := []) zkp_S rfl rfl) (zLog_km rfl (zkp_up (l := [117]) (fl := []) zkp_S rfl rfl) (zQ_Log hQ))), (zWra_kc rfl (zkp_up (l := [37]) (fl := []) zkp_S rfl rfl) (zWra_km rfl (zkp_up (l := [117]) (fl := []) zkp_S rfl rfl) (zQ_Wra hQ))), (zCas_kc rfl (zkp_up (l := [37]) (fl := []) zkp_S rfl rfl) (zCas_km rfl (zkp_up (l := [117]) (fl := []) zkp_S rfl rfl) (zQ_Cas hQ))), (zCer_kc rfl (zkp_up (l := [37]) (fl := []) zkp_S rfl rfl) (zCer_km rfl (zkp_up (l := [117]) (fl := []) zkp_S rfl rfl) (zQ_Cer hQ))), (zSin_kc rfl (zkp_up (l := [37]) (fl := []) zkp_S rfl rfl) (zSin_km rfl (zkp_up (l := [117]) (fl := []) zkp_S rfl rfl) (zQ_Sin hQ)))⟩
  have hU1 : zUm a (z_up T 117 a.toNatClampNeg w) := by
    intro j hj e1 e2
    rw [show (z_up T 117 a.toNatClampNeg w) 13 45 = T 13 45 from zupci rfl] at hj
    rw [show (z_up T 117 a.toNatClampNeg w) 119 = T 119 from zupc rfl] at e1
    rw [zup2, if_pos rfl] at e2
    by_cases ej : j = a.toNatClampNeg
    · omega
    · rw [if_neg ej] at e2
      exact absurd e2 (hU j hj e1)
  have q18 : (z_up S 37 a.toNatClampNeg w) 18 (c / 36).toNatClampNeg = T 86 (c / 36).toNatClampNeg := (zupci rfl).trans (congrFun (zQ_Eng hQ).2.2.1 _)
  have q19 : (z_up S 37 a.toNatClampNeg w) 19 (c / 36).toNatClampNeg = T 87 (c / 36).toNatClampNeg := (zupci rfl).trans (congrFun (zQ_Eng hQ).2.2.2.1 _)
  by_cases c3 : (T 87 (c / 36).toNatClampNeg) < (T 86 (c / 36).toNatClampNeg)
  · have e1 : F196 a b c d S = (if (((F64 ((z_up (z_up S 37 a.toNatClampNeg w) 19 (c / 36).toNatClampNeg (T 87 (c / 36).toNatClampNeg + 1)) 33 a.toNatClampNeg) ((z_up (z_up S 37 a.toNatClampNeg w) 19 (c / 36).toNatClampNeg (T 87 (c / 36).toNatClampNeg + 1)) 32 a.toNatClampNeg) c (z_up (z_up S 37 a.toNatClampNeg w) 19 (c / 36).toNatClampNeg (T 87 (c / 36).toNatClampNeg + 1))) &&& d) = 0) then ((-6) : Int32) else 0) := by
      unfold F196
      rw [s6, if_neg c0, if_pos c1, h5, s40, s38, if_pos ⟨g0, g1, g2⟩, s37, hw.2.2, q18, q19]
      simp only [if_pos c3]
    have e2 : G196 a b c d S = z_up (z_up S 37 a.toNatClampNeg w) 19 (c / 36).toNatClampNeg (T 87 (c / 36).toNatClampNeg + 1) := by
      unfold G196
      rw [s6, if_neg c0, if_pos c1, h5, s40, s38, if_pos ⟨g0, g1, g2⟩, s37, hw.2.2, q18, q19]
      simp only [if_pos c3]
    have e3 : F282 a b c d T = (if (((F257 a c (z_up (z_up T 117 a.toNatClampNeg w) 87 (c / 36).toNatClampNeg ((T 87 (c / 36).toNatClampNeg) + 1))) &&& d) = 0) then ((-6) : Int32) else 0) := by
      unfold F282
      simp only [if_neg c0, hX, zin hn, if_pos (⟨g0, g1⟩ : ((¬ (a < 0)) ∧ (¬ ((T 13 45) ≤ a))) ∧ T 119 a.toNatClampNeg = 0), if_neg g3, if_pos c3, hwd]
    have e4 : G282 a b c d T = z_up (z_up T 117 a.toNatClampNeg w) 87 (c / 36).toNatClampNeg ((T 87 (c / 36).toNatClampNeg) + 1) := by
      unfold G282
      simp only [if_neg c0, hX, zin hn, if_pos (⟨g0, g1⟩ : ((¬ (a < 0)) ∧ (¬ ((T 13 45) ≤ a))) ∧ T 119 a.toNatClampNeg = 0), if_neg g3, if_pos c3, hwd]
    have hQ2 : zQ n (z_up (z_up S 37 a.toNatClampNeg w) 19 (c / 36).toNatClampNeg (T 87 (c / 36).toNatClampNeg + 1)) (z_up (z_up T 117 a.toNatClampNeg w) 87 (c / 36).toNatClampNeg ((T 87 (c / 36).toNatClampNeg) + 1)) := ⟨(zSeal_kc rfl (zkp_up (l := [19]) (fl := []) zkp_S rfl rfl) (zSeal_km rfl (zkp_up (l := [87]) (fl := []) zkp_S rfl rfl) (zQ_Seal hQ1))), (zKey_kc rfl (zkp_up (l := [19]) (fl := []) zkp_S rfl rfl) (zKey_km rfl (zkp_up (l := [87]) (fl := []) zkp_S rfl rfl) (zQ_Key hQ1))), zEng_r (zQ_Eng hQ1) _ _, (zRul_kc rfl (zkp_up (l := [19]) (fl := []) zkp_S rfl rfl) (zRul_km rfl (zkp_up (l := [87]) (fl := []) zkp_S rfl rfl) (zQ_Rul hQ1))), (zPpl_kc rfl (zkp_up (l := [19]) (fl := []) zkp_S rfl rfl) (zPpl_km rfl (zkp_up (l := [87]) (fl := []) zkp_S rfl rfl) (zQ_Ppl hQ1))), (zTok_kc rfl (zkp_up (l := [19]) (fl := []) zkp_S rfl rfl) (zTok_km rfl (zkp_up (l := [87]) (fl := []) zkp_S rfl rfl) (zQ_Tok hQ1))), (zLea_kc rfl (zkp_up (l := [19]) (fl := []) zkp_S rfl rfl) (zLea_km rfl (zkp_up (l := [87]) (fl := []) zkp_S rfl rfl) (zQ_Lea hQ1))), (zLT_kc rfl (zkp_up (l := [19]) (fl := []) zkp_S rfl rfl) (zLT_km rfl (zkp_up (l := [87]) (fl := []) zkp_S rfl rfl) (zQ_LT hQ1))), (zSto_kc rfl (zkp_up (l := [19]) (fl := []) zkp_S rfl rfl) (zSto_km rfl (zkp_up (l := [87]) (fl := []) zkp_S rfl rfl) (zQ_Sto hQ1))), (zFar_kc rfl (zkp_up (l := [19]) (fl := []) zkp_S rfl rfl) (zFar_km rfl (zkp_up (l := [87]) (fl := []) zkp_S rfl rfl) (zQ_Far hQ1))), (zLog_kc rfl (zkp_up (l := [19]) (fl := []) zkp_S rfl rfl) (zLog_km rfl (zkp_up (l := [87]) (fl := []) zkp_S rfl rfl) (zQ_Log hQ1))), (zWra_kc rfl (zkp_up (l := [19]) (fl := []) zkp_S rfl rfl) (zWra_km rfl (zkp_up (l := [87]) (fl := []) zkp_S rfl rfl) (zQ_Wra hQ1))), (zCas_kc rfl (zkp_up (l := [19]) (fl := []) zkp_S rfl rfl) (zCas_km rfl (zkp_up (l := [87]) (fl := []) zkp_S rfl rfl) (zQ_Cas hQ1))), (zCer_kc rfl (zkp_up (l := [19]) (fl := []) zkp_S rfl rfl) (zCer_km rfl (zkp_up (l := [87]) (fl := []) zkp_S rfl rfl) (zQ_Cer hQ1))), (zSin_kc rfl (zkp_up (l := [19]) (fl := []) zkp_S rfl rfl) (zSin_km rfl (zkp_up (l := [87]) (fl := []) zkp_S rfl rfl) (zQ_Sin hQ1)))⟩
    have hU2 : zUm a (z_up (z_up T 117 a.toNatClampNeg w) 87 (c / 36).toNatClampNeg ((T 87 (c / 36).toNatClampNeg) + 1)) := by
      intro j hj k1 k2
      rw [zupci rfl] at hj k1 k2
      exact hU1 j hj k1 k2
    have e119 : (z_up (z_up T 117 a.toNatClampNeg w) 87 (c / 36).toNatClampNeg ((T 87 (c / 36).toNatClampNeg) + 1)) 119 a.toNatClampNeg = 0 := (zupci rfl).trans ((zupci rfl).trans g1)
    rw [e1, e2, e3, e4]
    generalize z_up (z_up S 37 a.toNatClampNeg w) 19 (c / 36).toNatClampNeg (T 87 (c / 36).toNatClampNeg + 1) = S2 at *
    generalize z_up (z_up T 117 a.toNatClampNeg w) 87 (c / 36).toNatClampNeg ((T 87 (c / 36).toNatClampNeg) + 1) = T2 at *
    have hT2 := zQ_Tok hQ2
    have hri := zrights (zQ_Rul hQ2) (zQ_Ppl hQ2) hT2.2.2.2.1 hT2.2.2.2.2.1 a c (hT2.2.2.2.2.2.2.2.2.2.2.2.2.2.2.1 a.toNatClampNeg)
    rw [hri]
    by_cases c4 : (F64 (S2 33 a.toNatClampNeg) (S2 32 a.toNatClampNeg) c S2 &&& d) = 0
    · rw [if_pos c4]
      exact ⟨rfl, hQ2, hU2, Or.inr (by decide), fun e => by rcases e with e | e <;> exact absurd e (by decide), fun e => absurd e (by decide)⟩
    · rw [if_neg c4]
      exact ⟨rfl, hQ2, hU2, Or.inl rfl, fun e => by rcases e with e | e <;> exact absurd e (by decide), fun _ => ⟨gi.1, gi.2.1, e119⟩⟩
  · have e1 : F196 a b c d S = -5 := by
      unfold F196
      rw [s6, if_neg c0, if_pos c1, h5, s40, s38, if_pos ⟨g0, g1, g2⟩, s37, hw.2.2, q18, q19]
      simp only [if_neg c3]
    have e2 : G196 a b c d S = z_up S 37 a.toNatClampNeg w := by
      unfold G196
      rw [s6, if_neg c0, if_pos c1, h5, s40, s38, if_pos ⟨g0, g1, g2⟩, s37, hw.2.2, q18, q19]
      simp only [if_neg c3]
    have e3 : F282 a b c d T = -5 := by
      unfold F282
      simp only [if_neg c0, hX, zin hn, if_pos (⟨g0, g1⟩ : ((¬ (a < 0)) ∧ (¬ ((T 13 45) ≤ a))) ∧ T 119 a.toNatClampNeg = 0), if_neg g3, if_neg c3]
    have e4 : G282 a b c d T = z_up T 117 a.toNatClampNeg w := by
      unfold G282
      simp only [if_neg c0, hX, zin hn, if_pos (⟨g0, g1⟩ : ((¬ (a < 0)) ∧ (¬ ((T 13 45) ≤ a))) ∧ T 119 a.toNatClampNeg = 0), if_neg g3, if_neg c3, hwd]
    rw [e1, e2, e3, e4]
    exact ⟨rfl, hQ1, hU1, Or.inr (by decide), fun e => by rcases e with e | e <;> exact absurd e (by decide), fun e => absurd e (by decide)⟩
