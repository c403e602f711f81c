/-! the law: 25.10.opens (wip/p57/gen) -/
theorem i326_9 : zi 326 9 10 1 3 0 := by decide +kernel
theorem i326_10 : zi 326 10 11 2 1 0 := by decide +kernel
theorem i326_11 : zi 326 11 12 0 0 7 := by decide +kernel
theorem i326_12 : zi 326 12 13 8 0 0 := by decide +kernel
theorem kt_7 : (7 : Int32).toNatClampNeg = 7 := by decide +kernel
theorem zx_9_7 : zx 9 7 := by unfold zx; decide
theorem i326_13 : zi 326 13 14 19 49 3 := by decide +kernel
theorem i326_49 : zi 326 49 50 2 1 0 := by decide +kernel
theorem i326_50 : zi 326 50 51 0 0 8 := by decide +kernel
theorem i326_51 : zi 326 51 52 0 0 1 := by decide +kernel
theorem i326_52 : zi 326 52 53 10 0 0 := by decide +kernel
theorem i326_53 : zi 326 53 54 1 2 0 := by decide +kernel
theorem i326_54 : zi 326 54 55 18 60 0 := by decide +kernel
theorem i326_55 : zi 326 55 56 2 0 0 := by decide +kernel
theorem i326_56 : zi 326 56 57 21 135 11 := by decide +kernel
theorem na_135 : z_na 135 = 0 := by decide +kernel
theorem i326_57 : zi 326 57 58 18 60 0 := by decide +kernel
theorem i326_58 : zi 326 58 59 0 0 1 := by decide +kernel
theorem i326_59 : zi 326 59 60 17 61 0 := by decide +kernel
theorem i326_61 : zi 326 61 62 26 0 0 := by decide +kernel
theorem i326_14 : zi 326 14 15 1 2 0 := by decide +kernel
theorem i326_15 : zi 326 15 16 18 49 0 := by decide +kernel
theorem i326_16 : zi 326 16 17 2 0 0 := by decide +kernel
theorem i326_17 : zi 326 17 18 2 1 0 := by decide +kernel
theorem i326_18 : zi 326 18 19 0 0 6 := by decide +kernel
theorem i326_19 : zi 326 19 20 8 0 0 := by decide +kernel
theorem kt_6 : (6 : Int32).toNatClampNeg = 6 := by decide +kernel
theorem zx_9_6 : zx 9 6 := by unfold zx; decide
theorem i326_20 : zi 326 20 21 1 3 0 := by decide +kernel
theorem i326_21 : zi 326 21 22 13 1 0 := by decide +kernel
theorem i326_22 : zi 326 22 23 2 0 0 := by decide +kernel
theorem i326_23 : zi 326 23 24 2 1 0 := by decide +kernel
theorem i326_24 : zi 326 24 25 0 0 6 := by decide +kernel
theorem i326_25 : zi 326 25 26 8 0 0 := by decide +kernel
theorem i326_26 : zi 326 26 27 1 3 0 := by decide +kernel
theorem i326_27 : zi 326 27 28 13 1 0 := by decide +kernel
theorem i326_28 : zi 326 28 29 21 132 11 := by decide +kernel
theorem na_132 : z_na 132 = 1 := by decide +kernel
theorem i326_29 : zi 326 29 30 21 133 11 := by decide +kernel
theorem na_133 : z_na 133 = 2 := by decide +kernel
theorem i326_30 : zi 326 30 31 1 3 0 := by decide +kernel
theorem i326_31 : zi 326 31 32 2 1 0 := by decide +kernel
theorem i326_32 : zi 326 32 33 0 0 7 := by decide +kernel
theorem i326_33 : zi 326 33 34 8 0 0 := by decide +kernel
theorem i326_34 : zi 326 34 35 0 0 1 := by decide +kernel
theorem i326_35 : zi 326 35 36 13 1 0 := by decide +kernel
theorem i326_36 : zi 326 36 37 19 39 1 := by decide +kernel
theorem i326_37 : zi 326 37 38 0 0 0 := by decide +kernel
theorem i326_38 : zi 326 38 39 17 42 0 := by decide +kernel
theorem i326_42 : zi 326 42 43 19 45 1 := by decide +kernel
theorem i326_43 : zi 326 43 44 0 0 1 := by decide +kernel
theorem i326_44 : zi 326 44 45 17 46 0 := by decide +kernel
theorem i326_46 : zi 326 46 47 3 2 0 := by decide +kernel
theorem i326_47 : zi 326 47 48 5 3 1 := by decide +kernel
theorem i326_48 : zi 326 48 49 17 9 0 := by decide +kernel
theorem i326_39 : zi 326 39 40 1 3 0 := by decide +kernel
theorem i326_40 : zi 326 40 41 0 0 1 := by decide +kernel
theorem i326_41 : zi 326 41 42 13 0 0 := by decide +kernel
theorem ml_326 : z_ml 326 = 4 := by decide +kernel
theorem en_326 : ∀ (v0 v1 : zV), z_ent 326 [v0, v1] = [some v0, some v1, none, none] := fun v0 v1 => by unfold z_ent; rw [ml_326]; rfl
theorem i326_0 : zi 326 0 1 2 0 0 := by decide +kernel
theorem i326_1 : zi 326 1 2 21 135 11 := by decide +kernel
theorem i326_2 : zi 326 2 3 18 5 1 := by decide +kernel
theorem i326_3 : zi 326 3 4 0 0 1 := by decide +kernel
theorem i326_4 : zi 326 4 5 17 6 0 := by decide +kernel
theorem i326_6 : zi 326 6 7 3 2 0 := by decide +kernel
theorem i326_7 : zi 326 7 8 0 0 0 := by decide +kernel
theorem i326_8 : zi 326 8 9 3 3 0 := by decide +kernel

theorem jOp_I {n : Nat} {S0 S : zS} {j : Nat} (h : jI n S0) (hj : (j : Int) = (S0 1 2).toInt) (ho : jOp S0 j S) : jI n S ∧ S 1 6 = 1 := by
  obtain ⟨k, _, o⟩ := ho
  obtain ⟨o1, o2, o3⟩ := o hj
  have hs := jI_Sea h
  unfold jSea at hs
  obtain ⟨s1, s2, s3, s4, s5, s6, s7⟩ := hs
  have e11 : S 1 1 = S0 1 1 := k.2 1 1 rfl rfl
  have e12 : S 1 2 = S0 1 2 := k.2 1 2 rfl rfl
  have e10 : S 1 0 = S0 1 0 := k.2 1 0 rfl rfl
  have e14 : S 14 = S0 14 := k.1 14 rfl
  have kS : jSea S := by
    unfold jSea
    rw [e11, e12, e10, e14]
    exact ⟨Or.inr o1, s2, s3, o3, o2, s6, s7⟩
  exact ⟨by unfold jI; exact ⟨kS, (jKey_k rfl k (jI_Key h)), (jEng_k rfl k (jI_Eng h)), (jPpl_k rfl k (jI_Ppl h)), (jTok_k rfl k (jI_Tok h)), (jTim_k rfl k (jI_Tim h)), (jUse_k rfl k (jI_Use h)), (jLea_k rfl k (jI_Lea h)), (jEnd_k rfl k (jI_End h)), (jLT_k rfl k (jI_LT h)), (jCnt_k rfl k (jI_Cnt h)), (jSto_k rfl k (jI_Sto h)), (jFar_k rfl k (jI_Far h)), (jWra_k rfl k (jI_Wra h)), (jCas_k rfl k (jI_Cas h)), (jCer_k rfl k (jI_Cer h)), (jSin_k rfl k (jI_Sin h))⟩, o1⟩
theorem jOp_0 {n : Nat} {S : zS} (h : jI n S) (h6 : S 1 6 = 0) : jOp S 0 S := by
  have hs := jI_Sea h
  unfold jSea at hs
  obtain ⟨s1, s2, s3, s4, s5, s6, s7⟩ := hs
  refine ⟨zkp_S, fun _ => ⟨h6, s5, fun i hi => ?_⟩, fun e => by have : ((0 : Nat) : Int) = 0 := rfl; omega⟩
  rw [s4 i hi, if_neg (by have : ((0 : Nat) : Int) = 0 := rfl; omega)]

set_option maxRecDepth 100000 in
theorem q326r {L : Nat} (k : Int32) {S : zS} {n j : Nat} {S0 : zS} {P : zS → Prop} (hn : n < 490) (h : jI n S0) (hj : (j : Int) ≤ (S0 1 2).toInt) (ho : jOp S0 j S) (h13 : S 13 = S0 13) (c6 : S0 13 6 = S0 1 1) (c7 : S0 13 7 = S0 1 2) (hk : k = Int32.ofNat j) (hF : ∀ S1 : zS, jI n S1 → S1 1 6 = 1 → zkp [1, 15] [1005, 1006] S0 S1 → P (z_up S1 13 8 1)) (IH : ∀ S1 : zS, (j : Int) < (S0 1 2).toInt → jOp S0 (j + 1) S1 → S1 13 = S0 13 → zH L 326 (9, [some (.inr (.inr 0)), some (.inr (.inr 13)), some (.inl 1), some (.inl (k + 1))], [], S1) (jQ P)) : zH L 326 (9, [some (.inr (.inr 0)), some (.inr (.inr 13)), some (.inl 1), some (.inl k)], [], S) (jQ (fun S' => P S')) := by
  have hs := jI_Sea h
  have hs1 := rSea_1 hs
  have hs2 := rSea_2 hs
  have ej : k.toInt = j := by rw [hk]; exact zk_ti j (by omega)
  have e6 : S 13 6 = S0 1 1 := by rw [h13]; exact c6
  have e7 : S 13 7 = S0 1 2 := by rw [h13]; exact c7
  have e11 : S 1 1 = S0 1 1 := ho.1.2 1 1 rfl rfl
  refine zH_pre (zr_1_3 i326_9 (zr_2_1 i326_10 (zr_0 i326_11 kc_7 (zr_8 i326_12 ar_13 (zx_9_7) kt_7 rfl (zt_rfl))))) ?_
  by_cases hd : ((S 13 7) ≤ k)
  · refine zH_pre (zt_cast (zr_19_3 i326_13 (fun _ => zt_rfl) (fun _ => zt_rfl)) (if_pos hd)) ?_
    have hje : (j : Int) = (S0 1 2).toInt := by rw [zk_le, e7] at hd; omega
    obtain ⟨w1, w2⟩ := jOp_I h hje ho
    have kk := ho.1
    have w3 : jI n (z_up S 13 8 1) := jI_13 w1 8 1 rfl
    refine zH_pre (zr_2_1 i326_49 (zr_0 i326_50 kc_8 (zr_0 i326_51 kc_1 (zr_10 i326_52 ar_13 (zx_9_8) kt_8 (zr_1_2 i326_53 (zt_rfl)))))) ?_
    refine zH_pre (zr_18f_0 i326_54 (by decide) zt_rfl) ?_
    refine zH_pre (zr_2_0 i326_55 (zt_rfl)) ?_
    have hP : jP135  (z_up S 13 8 1) := jI_n (by omega) w3
    refine zH_call (zs_21_0 i326_56 na_135 ob_0 rfl) (y135  (z_up S 13 8 1) hP) ?_
    have f := (show (A135 (z_up S 13 8 1)) = 1 from (zupci rfl).trans w2)
    generalize (A135 (z_up S 13 8 1)) = r at f ⊢
    have hc : ¬ (r = 0) := by rw [f]; decide
    refine zH_pre (zt_cast (zr_18_0 i326_57 (fun _ => zt_rfl) (fun _ => zt_rfl)) (if_neg hc)) ?_
    clear hc
    refine zH_pre (zr_0 i326_58 kc_1 (zr_17 i326_59 (zt_rfl))) ?_
    exact zH_ret (zr_26 i326_61 zo_1) ⟨rfl, hF _ w1 w2 kk⟩
  · refine zH_pre (zt_cast (zr_19_3 i326_13 (fun _ => zt_rfl) (fun _ => zt_rfl)) (if_neg hd)) ?_
    have hje : (j : Int) < (S0 1 2).toInt := by rw [zk_le, e7] at hd; omega
    have gv := jgive hs hje ho
    rw [← hk, e11] at gv
    have h6 : S 1 6 = 0 := gv.2.2.2.1
    have hsx : zo (S 1 6) ∧ zn 6 (S 1 1) := ⟨Or.inl h6, by rw [e11]; exact jn6 hs⟩
    have d0 : (¬ (((S0 1 1) - k) < 1)) ∧ (¬ ((S 1 1) < ((S0 1 1) - k))) := by rw [e11, zk_lt, zk_lt, gv.2.1, zk_1]; omega
    refine zH_pre (zr_1_2 i326_14 (zt_rfl)) ?_
    refine zH_pre (zr_18f_0 i326_15 (by decide) zt_rfl) ?_
    refine zH_pre (zr_2_0 i326_16 (zr_2_1 i326_17 (zr_0 i326_18 kc_6 (zr_8 i326_19 ar_13 (zx_9_6) kt_6 rfl (zr_1_3 i326_20 (zr_13_1 i326_21 (zr_2_0 i326_22 (zr_2_1 i326_23 (zr_0 i326_24 kc_6 (zr_8 i326_25 ar_13 (zx_9_6) kt_6 rfl (zr_1_3 i326_26 (zr_13_1 i326_27 (zt_rfl))))))))))))) ?_
    have hP : jP132 ((S 13 6) - k) S := ⟨hsx, by rw [e6]; exact d0⟩
    refine zH_call (zs_21_1 i326_28 na_132 ob_0 rfl) (y132 ((S 13 6) - k) S hP) ?_
    have f := (show (A132 ((S 13 6) - k) S) = S 14 ((S0 1 1) - k).toNatClampNeg from by unfold A132; rw [e6])
    generalize (A132 ((S 13 6) - k) S) = v at f ⊢
    have hv := f
    have hP : jP133 ((S 13 6) - k) v S := ⟨hsx, by rw [e6]; exact d0, by rw [hv]; have := gv.2.2.1; unfold zn at this; rw [zk_lt, zk_lt, jk_0, jk_256]; omega, h6⟩
    refine zH_call (zs_21_2 i326_29 na_133 ob_0 rfl) (y133 ((S 13 6) - k) v S hP) ?_
    have f := (show jOp S0 (j + 1) (B133 ((S 13 6) - k) v S) ∧ (B133 ((S 13 6) - k) v S) 13 = S0 13 ∧ (A133 ((S 13 6) - k) v S) = (if ((j : Int) + 1 = (S0 1 2).toInt) then 0 else Int32.ofNat (j + 1)) from by rw [hv, e6]; exact ⟨gv.1, ((p_B133 _ _ S).1 13 rfl).trans h13, gv.2.2.2.2⟩)
    generalize (B133 ((S 13 6) - k) v S) = S1 at f ⊢
    generalize (A133 ((S 13 6) - k) v S) = r at f ⊢
    obtain ⟨w1, w2, w3⟩ := f
    have e72 : S1 13 7 = S0 1 2 := by rw [w2]; exact c7
    have e1 : ((S0 1 2) - 1).toInt = (S0 1 2).toInt - 1 := by rw [zk_tsub (by rw [zk_1]; omega) (by rw [zk_1]; omega), zk_1]
    refine zH_pre (zr_1_3 i326_30 (zr_2_1 i326_31 (zr_0 i326_32 kc_7 (zr_8 i326_33 ar_13 (zx_9_7) kt_7 rfl (zr_0 i326_34 kc_1 (zr_13_1 i326_35 (zt_rfl))))))) ?_
    by_cases hl : (k = ((S1 13 7) - 1))
    · refine zH_pre (zt_cast (zr_19_1 i326_36 (fun _ => zt_rfl) (fun _ => zt_rfl)) (if_pos hl)) ?_
      have hje2 : (j : Int) + 1 = (S0 1 2).toInt := by rw [e72] at hl; have := congrArg Int32.toInt hl; omega
      refine zH_pre (zr_0 i326_37 kc_0 (zr_17 i326_38 (zt_rfl))) ?_
      have hc : (r = 0) := by rw [w3, if_pos hje2]
      refine zH_pre (zt_cast (zr_19_1 i326_42 (fun _ => zt_rfl) (fun _ => zt_rfl)) (if_pos hc)) ?_
      clear hc
      refine zH_pre (zr_0 i326_43 kc_1 (zr_17 i326_44 (zr_3_2 i326_46 (zr_5_3 i326_47 kc_1 (zr_17 i326_48 (zt_rfl)))))) ?_
      exact IH S1 hje w1 w2
    · refine zH_pre (zt_cast (zr_19_1 i326_36 (fun _ => zt_rfl) (fun _ => zt_rfl)) (if_neg hl)) ?_
      have hje2 : ¬ (j : Int) + 1 = (S0 1 2).toInt := fun e => hl (by rw [e72]; exact zk_eq.mpr (by omega))
      refine zH_pre (zr_1_3 i326_39 (zr_0 i326_40 kc_1 (zr_13_0 i326_41 (zt_rfl)))) ?_
      have hc : (r = (k + 1)) := by rw [w3, if_neg hje2, hk, zk_add]
      refine zH_pre (zt_cast (zr_19_1 i326_42 (fun _ => zt_rfl) (fun _ => zt_rfl)) (if_pos hc)) ?_
      clear hc
      refine zH_pre (zr_0 i326_43 kc_1 (zr_17 i326_44 (zr_3_2 i326_46 (zr_5_3 i326_47 kc_1 (zr_17 i326_48 (zt_rfl)))))) ?_
      exact IH S1 hje w1 w2
set_option maxRecDepth 100000 in
theorem q326l {L : Nat} {S0 : zS} {P : zS → Prop} {n : Nat} (hn : n < 490) (h : jI n S0) (c6 : S0 13 6 = S0 1 1) (c7 : S0 13 7 = S0 1 2) (hF : ∀ S1 : zS, jI n S1 → S1 1 6 = 1 → zkp [1, 15] [1005, 1006] S0 S1 → P (z_up S1 13 8 1)) : ∀ (r j : Nat) (S : zS), (j : Int) + r = (S0 1 2).toInt → jOp S0 j S → S 13 = S0 13 → zH L 326 (9, [some (.inr (.inr 0)), some (.inr (.inr 13)), some (.inl 1), some (.inl (Int32.ofNat j))], [], S) (jQ P)
  | 0, j, S, hr, ho, h13 => q326r _ hn h (by omega) ho h13 c6 c7 rfl hF (fun S1 hlt => absurd hlt (by omega))
  | r + 1, j, S, hr, ho, h13 => q326r _ hn h (by omega) ho h13 c6 c7 rfl hF (fun S1 _ h2 h3 => by
      have := q326l (L := L) hn h c6 c7 hF r (j + 1) S1 (by omega) h2 h3
      rw [← zk_add] at this
      exact this)
set_option maxRecDepth 100000 in
theorem q326 {L : Nat} {S : zS} {n : Nat} (hn : n < 490) (h : jI n S) (h6 : S 1 6 = 0) (c6 : S 13 6 = S 1 1) (c7 : S 13 7 = S 1 2) : ∃ S', zf L 326 [.inr (.inr 0), .inr (.inr 13)] S (.inl (some (.inl 1)), S', 0) ∧ (∃ S1, S' = z_up S1 13 8 1 ∧ jI n S1 ∧ S1 1 6 = 1 ∧ zkp [1, 15] [1005, 1006] S S1) := by
  refine zH_f (en_326 _ _) ?_
  have hs2 := rSea_2 (jI_Sea h)
  refine zH_pre (zr_2_0 i326_0 (zt_rfl)) ?_
  have hP : jP135  S := jI_n (by omega) h
  refine zH_call (zs_21_0 i326_1 na_135 ob_0 rfl) (y135  S hP) ?_
  have f := (show (A135 S) = 0 from h6)
  generalize (A135 S) = r at f ⊢
  have hc : (r = 0) := f
  refine zH_pre (zt_cast (zr_18_1 i326_2 (fun _ => zt_rfl) (fun _ => zt_rfl)) (if_pos hc)) ?_
  clear hc
  refine zH_pre (zr_0 i326_3 kc_1 (zr_17 i326_4 (zr_3_2 i326_6 (zr_0 i326_7 kc_0 (zr_3_3 i326_8 (zt_rfl)))))) ?_
  exact q326l hn h c6 c7 (fun S1 h1 h2 h3 => ⟨S1, rfl, h1, h2, h3⟩) (S 1 2).toNatClampNeg 0 S (by have := zk_nat (x := S 1 2) (by omega); have : ((0 : Nat) : Int) = 0 := rfl; omega) (jOp_0 h h6) rfl
