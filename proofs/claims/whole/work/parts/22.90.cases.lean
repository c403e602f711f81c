/-! wraps, approvals, taking up, tokens (wip/whole/gen/gen90.py) -/
theorem zreq0 {n m : Nat} {S T GS GT : zS} {FS FT : Int32} (h : zR n S T) (hm : ∀ {A B : zS}, zQ n A B → zQ m A B) (a b c d : Int32) (hc : zx 216 c) (ho : zQ n (G196 a b c d S) (G282 a b c d T) → 0 ≤ a.toInt → a.toInt < ((G282 a b c d T) 13 45).toInt → (G282 a b c d T) 119 a.toNatClampNeg = 0 → FT = FS ∧ zQ m GS GT ∧ ¬ FS = -2 ∧ ¬ FS = -3) (h13 : GT 13 45 = (G282 a b c d T) 13 45) (h119 : GT 119 = (G282 a b c d T) 119) (h117 : GT 117 = (G282 a b c d T) 117) :
    (if (0 ≤ F282 a b c d T) then (FT : Int32) else F282 a b c d T) = (if (F196 a b c d S = 0) then (FS : Int32) else F196 a b c d S) ∧ zQ m (if (F196 a b c d S = 0) then GS else G196 a b c d S) (if (0 ≤ F282 a b c d T) then GT else G282 a b c d T) ∧ zUm a (if (0 ≤ F282 a b c d T) then GT else G282 a b c d T) ∧ (((if (F196 a b c d S = 0) then (FS : Int32) else F196 a b c d S) = -2 ∨ (if (F196 a b c d S = 0) then (FS : Int32) else F196 a b c d S) = -3) → zUse (if (F196 a b c d S = 0) then GS else G196 a b c d S) (if (0 ≤ F282 a b c d T) then GT else G282 a b c d T)) := by
  obtain ⟨z1, z2, z3, z4, z5, z6⟩ := zadm h a b c d hc
  rw [z1]
  by_cases c0 : F196 a b c d S = 0
  · have c1 : (0 : Int32) ≤ F196 a b c d S := by rw [c0]; decide
    simp only [if_pos c0, if_pos c1]
    obtain ⟨q1, q2, q3⟩ := z6 c0
    obtain ⟨w1, w2, w3, w4⟩ := ho z2 q1 (by rw [(p_G282 a b c d T).2 13 45 rfl rfl]; exact q2) q3
    refine ⟨w1, w2, ?_, fun e => ?_⟩
    · intro j hj e1 e2
      exact z3 j (by rw [← h13]; exact hj) (by rw [← h119]; exact e1) (by rw [← h117]; exact e2)
    · rcases e with e | e
      · exact absurd e w3
      · exact absurd e w4
  · have c1 : ¬ (0 : Int32) ≤ F196 a b c d S := z4.resolve_left c0
    simp only [if_neg c0, if_neg c1]
    exact ⟨trivial, hm z2, z3, z5⟩
theorem zwp {m : Nat} {S T : zS} (h : zQ m S T) (v : Int32) : (if (0 ≤ v) then ((if ((T 13 68) = 20) then ((-11) : Int32) else (T 13 68)) : Int32) else v) = (if (v < 0) then (v : Int32) else (if ((S 10 0) < 20) then ((S 10 0) : Int32) else (-11))) ∧ zQ m (if (v < 0) then S else (if ((S 10 0) < 20) then (z_up (z_up (z_up S 63 (S 10 0).toNatClampNeg v) 64 (S 10 0).toNatClampNeg (S 0 11)) 10 0 ((S 10 0) + 1)) else S)) (if ((if (0 ≤ v) then ((if ((T 13 68) = 20) then ((-11) : Int32) else (T 13 68)) : Int32) else v) < 0) then T else (z_up (z_up (z_up (z_up T 130 (T 13 68).toNatClampNeg v) 131 (T 13 68).toNatClampNeg (T 13 1)) 132 (T 13 68).toNatClampNeg 0) 13 68 ((T 13 68) + 1))) ∧ (((if (v < 0) then (v : Int32) else (if ((S 10 0) < 20) then ((S 10 0) : Int32) else (-11))) = -2 ∨ (if (v < 0) then (v : Int32) else (if ((S 10 0) < 20) then ((S 10 0) : Int32) else (-11))) = -3) → v = -2 ∨ v = -3) := by
  have hW := zQ_Wra h
  have s11 : S 0 11 = T 13 1 := (zQ_Key h).2.2.2.2.2.2.1
  have e10 : S 10 0 = T 13 68 := hW.1
  have hn := hW.2.2.2.2.1
  have e20 := zeq_top hn zlt_20
  rw [e10, s11]
  simp only [e20]
  by_cases c0 : v < 0
  · have c1 : ¬ (0 : Int32) ≤ v := by rw [zk_lt] at c0; rw [zk_le]; omega
    simp only [if_pos c0, if_neg c1]
    exact ⟨trivial, h, fun e => e⟩
  have c1 : (0 : Int32) ≤ v := by rw [zk_lt] at c0; rw [zk_le]; omega
  by_cases c2 : T 13 68 < 20
  · have c3 : ¬ T 13 68 < 0 := by rw [zk_lt, zlt_0]; have := hn.1; omega
    simp only [if_neg c0, if_pos c1, c2, not_true_eq_false, if_false, if_true, if_neg c3]
    refine ⟨trivial, ?_, fun e => ?_⟩
    · have hpS : zkp [10, 63, 64] [10000] S (z_up (z_up (z_up S 63 (T 13 68).toNatClampNeg v) 64 (T 13 68).toNatClampNeg (T 13 1)) 10 0 ((T 13 68) + 1)) := zkp_upf (zkp_up (zkp_up zkp_S rfl rfl) rfl rfl) rfl rfl
      have hpT : zkp [13, 130, 131, 132] [13068] T (z_up (z_up (z_up (z_up T 130 (T 13 68).toNatClampNeg v) 131 (T 13 68).toNatClampNeg (T 13 1)) 132 (T 13 68).toNatClampNeg 0) 13 68 ((T 13 68) + 1)) := zkp_upf (zkp_up (zkp_up (zkp_up zkp_S rfl rfl) rfl rfl) rfl rfl) rfl rfl
      have key : zWra (z_up (z_up (z_up S 63 (T 13 68).toNatClampNeg v) 64 (T 13 68).toNatClampNeg (T 13 1)) 10 0 ((T 13 68) + 1)) (z_up (z_up (z_up (z_up T 130 (T 13 68).toNatClampNeg v) 131 (T 13 68).toNatClampNeg (T 13 1)) 132 (T 13 68).toNatClampNeg 0) 13 68 ((T 13 68) + 1)) := by
        unfold zWra at hW ⊢
        obtain ⟨k0, k1, k2, k3, k4, k5⟩ := hW
        have u : upd (T 132) (T 13 68).toNatClampNeg 0 = T 132 := zupd_s _ _ _ (k5 _ (Nat.le_refl _))
        rw [zk_lt, zlt_20] at c2
        have g1 : (T 13 68 + 1).toInt = (T 13 68).toInt + 1 := by have := k4.1; rw [zk_tadd (by rw [zk_1]; omega) (by rw [zk_1]; omega), zk_1]
        have g2 := zk_nat k4.1
        have g3 := zk_nat (x := T 13 68 + 1) (by have := k4.1; omega)
        simp only [zup2, zup1, k0, k1, k2, k3, u, Nat.reduceEqDiff, reduceIte, true_and, and_true, ite_true, ite_false]
        refine ⟨by have := k4.1; unfold zn; omega, fun j hj => ?_⟩
        rw [if_neg (by omega)]
        exact k5 j (by omega)
      exact ⟨(zSeal_kc rfl hpS (zSeal_km rfl hpT (zQ_Seal h))), (zKey_kc rfl hpS (zKey_km rfl hpT (zQ_Key h))), (zEng_kc rfl hpS (zEng_km rfl hpT (zQ_Eng h))), (zRul_kc rfl hpS (zRul_km rfl hpT (zQ_Rul h))), (zPpl_kc rfl hpS (zPpl_km rfl hpT (zQ_Ppl h))), (zTok_kc rfl hpS (zTok_km rfl hpT (zQ_Tok h))), (zLea_kc rfl hpS (zLea_km rfl hpT (zQ_Lea h))), (zLT_kc rfl hpS (zLT_km rfl hpT (zQ_LT h))), (zSto_kc rfl hpS (zSto_km rfl hpT (zQ_Sto h))), (zFar_kc rfl hpS (zFar_km rfl hpT (zQ_Far h))), (zLog_kc rfl hpS (zLog_km rfl hpT (zQ_Log h))), key, (zCas_kc rfl hpS (zCas_km rfl hpT (zQ_Cas h))), (zCer_kc rfl hpS (zCer_km rfl hpT (zQ_Cer h))), (zSin_kc rfl hpS (zSin_km rfl hpT (zQ_Sin h)))⟩
    · exfalso
      rcases e with e | e <;> exact zn_m hn (by decide) e
  · simp only [if_neg c0, if_pos c1, c2, not_false_eq_true, if_false, if_true, if_pos (show ((-11 : Int32) < 0) by decide)]
    refine ⟨trivial, h, fun e => ?_⟩
    rcases e with e | e <;> exact absurd e (by decide)
theorem zrq39 {n : Nat} {S T : zS} (q1 : Int32) (q2 : Int32) (q3 : Int32) (q4 : Int32) (hn : n < 512) (h : zR n S T) : (((G298 q1 q2 q3 q4 T) 13 0) = (F359_0_148 q1 q2 q3 q4 S) ∧ ((F359_0_148 q1 q2 q3 q4 S) = 0 → ((G359_0_148 q1 q2 q3 q4 S) 148 0) = (F298 q1 q2 q3 q4 T))) ∧ zR (n + 1) (G359_0_148 q1 q2 q3 q4 S) (M39 q1 q2 q3 q4 T) := by
  have h' : zR n S (z_up T 13 0 0) := zQ_R (zQ_thr (zR_Q h) 0) (zU_thr (zR_Use h) 0)
  unfold M39
  by_cases hC : (((¬ (q2 < 0)) ∧ (¬ (4 ≤ q2))) ∧ (((¬ (q3 < 0)) ∧ (¬ (216 ≤ q3))) ∧ ((¬ (q4 < 0)) ∧ (¬ (9999 < q4)))))
  · have hg : (zb ((¬ ((¬ (q2 < 0)) ∧ (¬ (3 < q2)))) ∨ ((¬ ((¬ (q3 < 0)) ∧ (¬ (215 < q3)))) ∨ (¬ ((¬ (q4 < 0)) ∧ (¬ (9999 < q4))))))) = 0 := by rw [zb_0]; simp only [zk_lt, zk_le, zlt_m1, zlt_0, zlt_1, zlt_2, zlt_3, zlt_4, zlt_5, zlt_6, zlt_7, zlt_8, zlt_9, zlt_10, zlt_15, zlt_16, zlt_20, zlt_24, zlt_30, zlt_36, zlt_39, zlt_40, zlt_50, zlt_72, zlt_100, zlt_199, zlt_200, zlt_215, zlt_216, zlt_255, zlt_256, zlt_1000, zlt_9999, zlt_65535, zlt_1000000000] at hC ⊢; omega
    have hx : zx 216 q3 := by rw [zx_iff]; simp only [zk_lt, zk_le, zlt_m1, zlt_0, zlt_1, zlt_2, zlt_3, zlt_4, zlt_5, zlt_6, zlt_7, zlt_8, zlt_9, zlt_10, zlt_15, zlt_16, zlt_20, zlt_24, zlt_30, zlt_36, zlt_39, zlt_40, zlt_50, zlt_72, zlt_100, zlt_199, zlt_200, zlt_215, zlt_216, zlt_255, zlt_256, zlt_1000, zlt_9999, zlt_65535, zlt_1000000000] at hC; omega
    have hd : zn 9999 q4 := by unfold zn; simp only [zk_lt, zk_le, zlt_m1, zlt_0, zlt_1, zlt_2, zlt_3, zlt_4, zlt_5, zlt_6, zlt_7, zlt_8, zlt_9, zlt_10, zlt_15, zlt_16, zlt_20, zlt_24, zlt_30, zlt_36, zlt_39, zlt_40, zlt_50, zlt_72, zlt_100, zlt_199, zlt_200, zlt_215, zlt_216, zlt_255, zlt_256, zlt_1000, zlt_9999, zlt_65535, zlt_1000000000] at hC; omega
    have key := zreq0 (m := n + 1) (GS := G202 q1 q3 q4 (G196 q1 q2 q3 1 S)) (GT := G289 q1 q3 q4 (G282 q1 q2 q3 1 (z_up T 13 0 0))) (FS := F202 q1 q3 q4 (G196 q1 q2 q3 1 S)) (FT := F289 q1 q3 q4 (G282 q1 q2 q3 1 (z_up T 13 0 0))) h' zQ_up q1 q2 q3 1 hx (fun z1 z2 z3 z4 => (fun w => ⟨w.1, zQ_up w.2.1, w.2.2⟩) (zrd z1 q1 q3 q4 hx hd ⟨z2, z3⟩)) ((p_G289 _ _ _ _).2 13 45 rfl rfl) ((p_G289 _ _ _ _).1 119 rfl) ((p_G289 _ _ _ _).1 117 rfl)
    have thr : (if (0 ≤ (F282 q1 q2 q3 1 (z_up T 13 0 0))) then (G289 q1 q3 q4 (G282 q1 q2 q3 1 (z_up T 13 0 0))) else (G282 q1 q2 q3 1 (z_up T 13 0 0))) 13 0 = 0 := by
      split
      · exact ((p_G289 _ _ _ _).2 13 0 rfl rfl).trans (((p_G282 _ _ _ _ _).2 13 0 rfl rfl).trans (zup_s _ _ _ _))
      · exact ((p_G282 _ _ _ _ _).2 13 0 rfl rfl).trans (zup_s _ _ _ _)
    have e1 : G298 q1 q2 q3 q4 T = (G283 q1 q3 0 (if (0 ≤ (if (0 ≤ (F282 q1 q2 q3 1 (z_up T 13 0 0))) then ((F289 q1 q3 q4 (G282 q1 q2 q3 1 (z_up T 13 0 0))) : Int32) else (F282 q1 q2 q3 1 (z_up T 13 0 0)))) then ((if (((if (0 ≤ (F282 q1 q2 q3 1 (z_up T 13 0 0))) then (G289 q1 q3 q4 (G282 q1 q2 q3 1 (z_up T 13 0 0))) else (G282 q1 q2 q3 1 (z_up T 13 0 0))) 13 68) = 20) then ((-11) : Int32) else ((if (0 ≤ (F282 q1 q2 q3 1 (z_up T 13 0 0))) then (G289 q1 q3 q4 (G282 q1 q2 q3 1 (z_up T 13 0 0))) else (G282 q1 q2 q3 1 (z_up T 13 0 0))) 13 68)) : Int32) else (if (0 ≤ (F282 q1 q2 q3 1 (z_up T 13 0 0))) then ((F289 q1 q3 q4 (G282 q1 q2 q3 1 (z_up T 13 0 0))) : Int32) else (F282 q1 q2 q3 1 (z_up T 13 0 0)))) (if ((if (0 ≤ (if (0 ≤ (F282 q1 q2 q3 1 (z_up T 13 0 0))) then ((F289 q1 q3 q4 (G282 q1 q2 q3 1 (z_up T 13 0 0))) : Int32) else (F282 q1 q2 q3 1 (z_up T 13 0 0)))) then ((if (((if (0 ≤ (F282 q1 q2 q3 1 (z_up T 13 0 0))) then (G289 q1 q3 q4 (G282 q1 q2 q3 1 (z_up T 13 0 0))) else (G282 q1 q2 q3 1 (z_up T 13 0 0))) 13 68) = 20) then ((-11) : Int32) else ((if (0 ≤ (F282 q1 q2 q3 1 (z_up T 13 0 0))) then (G289 q1 q3 q4 (G282 q1 q2 q3 1 (z_up T 13 0 0))) else (G282 q1 q2 q3 1 (z_up T 13 0 0))) 13 68)) : Int32) else (if (0 ≤ (F282 q1 q2 q3 1 (z_up T 13 0 0))) then ((F289 q1 q3 q4 (G282 q1 q2 q3 1 (z_up T 13 0 0))) : Int32) else (F282 q1 q2 q3 1 (z_up T 13 0 0)))) < 0) then (if (0 ≤ (F282 q1 q2 q3 1 (z_up T 13 0 0))) then (G289 q1 q3 q4 (G282 q1 q2 q3 1 (z_up T 13 0 0))) else (G282 q1 q2 q3 1 (z_up T 13 0 0))) else (z_up (z_up (z_up (z_up (if (0 ≤ (F282 q1 q2 q3 1 (z_up T 13 0 0))) then (G289 q1 q3 q4 (G282 q1 q2 q3 1 (z_up T 13 0 0))) else (G282 q1 q2 q3 1 (z_up T 13 0 0))) 130 ((if (0 ≤ (F282 q1 q2 q3 1 (z_up T 13 0 0))) then (G289 q1 q3 q4 (G282 q1 q2 q3 1 (z_up T 13 0 0))) else (G282 q1 q2 q3 1 (z_up T 13 0 0))) 13 68).toNatClampNeg (if (0 ≤ (F282 q1 q2 q3 1 (z_up T 13 0 0))) then ((F289 q1 q3 q4 (G282 q1 q2 q3 1 (z_up T 13 0 0))) : Int32) else (F282 q1 q2 q3 1 (z_up T 13 0 0)))) 131 ((if (0 ≤ (F282 q1 q2 q3 1 (z_up T 13 0 0))) then (G289 q1 q3 q4 (G282 q1 q2 q3 1 (z_up T 13 0 0))) else (G282 q1 q2 q3 1 (z_up T 13 0 0))) 13 68).toNatClampNeg ((if (0 ≤ (F282 q1 q2 q3 1 (z_up T 13 0 0))) then (G289 q1 q3 q4 (G282 q1 q2 q3 1 (z_up T 13 0 0))) else (G282 q1 q2 q3 1 (z_up T 13 0 0))) 13 1)) 132 ((if (0 ≤ (F282 q1 q2 q3 1 (z_up T 13 0 0))) then (G289 q1 q3 q4 (G282 q1 q2 q3 1 (z_up T 13 0 0))) else (G282 q1 q2 q3 1 (z_up T 13 0 0))) 13 68).toNatClampNeg 0) 13 68 (((if (0 ≤ (F282 q1 q2 q3 1 (z_up T 13 0 0))) then (G289 q1 q3 q4 (G282 q1 q2 q3 1 (z_up T 13 0 0))) else (G282 q1 q2 q3 1 (z_up T 13 0 0))) 13 68) + 1)))) := by unfold G298; rw [hg, if_pos rfl]
    have e2 : G359_0_148 q1 q2 q3 q4 S = (z_up (G197 q1 q3 1 (if ((if ((F196 q1 q2 q3 1 S) = 0) then ((F202 q1 q3 q4 (G196 q1 q2 q3 1 S)) : Int32) else (F196 q1 q2 q3 1 S)) < 0) then ((if ((F196 q1 q2 q3 1 S) = 0) then ((F202 q1 q3 q4 (G196 q1 q2 q3 1 S)) : Int32) else (F196 q1 q2 q3 1 S)) : Int32) else (if (((if ((F196 q1 q2 q3 1 S) = 0) then (G202 q1 q3 q4 (G196 q1 q2 q3 1 S)) else (G196 q1 q2 q3 1 S)) 10 0) < 20) then (((if ((F196 q1 q2 q3 1 S) = 0) then (G202 q1 q3 q4 (G196 q1 q2 q3 1 S)) else (G196 q1 q2 q3 1 S)) 10 0) : Int32) else (-11))) (if ((if ((F196 q1 q2 q3 1 S) = 0) then ((F202 q1 q3 q4 (G196 q1 q2 q3 1 S)) : Int32) else (F196 q1 q2 q3 1 S)) < 0) then (if ((F196 q1 q2 q3 1 S) = 0) then (G202 q1 q3 q4 (G196 q1 q2 q3 1 S)) else (G196 q1 q2 q3 1 S)) else (if (((if ((F196 q1 q2 q3 1 S) = 0) then (G202 q1 q3 q4 (G196 q1 q2 q3 1 S)) else (G196 q1 q2 q3 1 S)) 10 0) < 20) then (z_up (z_up (z_up (if ((F196 q1 q2 q3 1 S) = 0) then (G202 q1 q3 q4 (G196 q1 q2 q3 1 S)) else (G196 q1 q2 q3 1 S)) 63 ((if ((F196 q1 q2 q3 1 S) = 0) then (G202 q1 q3 q4 (G196 q1 q2 q3 1 S)) else (G196 q1 q2 q3 1 S)) 10 0).toNatClampNeg (if ((F196 q1 q2 q3 1 S) = 0) then ((F202 q1 q3 q4 (G196 q1 q2 q3 1 S)) : Int32) else (F196 q1 q2 q3 1 S))) 64 ((if ((F196 q1 q2 q3 1 S) = 0) then (G202 q1 q3 q4 (G196 q1 q2 q3 1 S)) else (G196 q1 q2 q3 1 S)) 10 0).toNatClampNeg ((if ((F196 q1 q2 q3 1 S) = 0) then (G202 q1 q3 q4 (G196 q1 q2 q3 1 S)) else (G196 q1 q2 q3 1 S)) 0 11)) 10 0 (((if ((F196 q1 q2 q3 1 S) = 0) then (G202 q1 q3 q4 (G196 q1 q2 q3 1 S)) else (G196 q1 q2 q3 1 S)) 10 0) + 1)) else (if ((F196 q1 q2 q3 1 S) = 0) then (G202 q1 q3 q4 (G196 q1 q2 q3 1 S)) else (G196 q1 q2 q3 1 S))))) 148 0 (if ((if ((F196 q1 q2 q3 1 S) = 0) then ((F202 q1 q3 q4 (G196 q1 q2 q3 1 S)) : Int32) else (F196 q1 q2 q3 1 S)) < 0) then ((if ((F196 q1 q2 q3 1 S) = 0) then ((F202 q1 q3 q4 (G196 q1 q2 q3 1 S)) : Int32) else (F196 q1 q2 q3 1 S)) : Int32) else (if (((if ((F196 q1 q2 q3 1 S) = 0) then (G202 q1 q3 q4 (G196 q1 q2 q3 1 S)) else (G196 q1 q2 q3 1 S)) 10 0) < 20) then (((if ((F196 q1 q2 q3 1 S) = 0) then (G202 q1 q3 q4 (G196 q1 q2 q3 1 S)) else (G196 q1 q2 q3 1 S)) 10 0) : Int32) else (-11)))) := by unfold G359_0_148; rw [if_pos hC]
    have e3 : F359_0_148 q1 q2 q3 q4 S = 0 := by unfold F359_0_148; rw [zb_0]; simp only [zk_lt, zk_le, zlt_m1, zlt_0, zlt_1, zlt_2, zlt_3, zlt_4, zlt_5, zlt_6, zlt_7, zlt_8, zlt_9, zlt_10, zlt_15, zlt_16, zlt_20, zlt_24, zlt_30, zlt_36, zlt_39, zlt_40, zlt_50, zlt_72, zlt_100, zlt_199, zlt_200, zlt_215, zlt_216, zlt_255, zlt_256, zlt_1000, zlt_9999, zlt_65535, zlt_1000000000] at hC ⊢; omega
    have e4 : F298 q1 q2 q3 q4 T = (if (0 ≤ (if (0 ≤ (F282 q1 q2 q3 1 (z_up T 13 0 0))) then ((F289 q1 q3 q4 (G282 q1 q2 q3 1 (z_up T 13 0 0))) : Int32) else (F282 q1 q2 q3 1 (z_up T 13 0 0)))) then ((if (((if (0 ≤ (F282 q1 q2 q3 1 (z_up T 13 0 0))) then (G289 q1 q3 q4 (G282 q1 q2 q3 1 (z_up T 13 0 0))) else (G282 q1 q2 q3 1 (z_up T 13 0 0))) 13 68) = 20) then ((-11) : Int32) else ((if (0 ≤ (F282 q1 q2 q3 1 (z_up T 13 0 0))) then (G289 q1 q3 q4 (G282 q1 q2 q3 1 (z_up T 13 0 0))) else (G282 q1 q2 q3 1 (z_up T 13 0 0))) 13 68)) : Int32) else (if (0 ≤ (F282 q1 q2 q3 1 (z_up T 13 0 0))) then ((F289 q1 q3 q4 (G282 q1 q2 q3 1 (z_up T 13 0 0))) : Int32) else (F282 q1 q2 q3 1 (z_up T 13 0 0)))) := by unfold F298; rw [hg, if_pos rfl]
    rw [e1, e2, e3, e4]
    obtain ⟨k1, k2, k3, k4⟩ := key
    rw [k1]
    generalize (if ((F196 q1 q2 q3 1 S) = 0) then ((F202 q1 q3 q4 (G196 q1 q2 q3 1 S)) : Int32) else (F196 q1 q2 q3 1 S)) = v at k4 ⊢
    generalize (if ((F196 q1 q2 q3 1 S) = 0) then (G202 q1 q3 q4 (G196 q1 q2 q3 1 S)) else (G196 q1 q2 q3 1 S)) = A at *
    generalize (if (0 ≤ (F282 q1 q2 q3 1 (z_up T 13 0 0))) then (G289 q1 q3 q4 (G282 q1 q2 q3 1 (z_up T 13 0 0))) else (G282 q1 q2 q3 1 (z_up T 13 0 0))) = B at *
    obtain ⟨p1, p2, p3⟩ := zwp k2 v
    have hB : ∀ X : Int32, zkp [13, 130, 131, 132] [13068] B (if (X < 0) then B else (z_up (z_up (z_up (z_up B 130 (B 13 68).toNatClampNeg v) 131 (B 13 68).toNatClampNeg (B 13 1)) 132 (B 13 68).toNatClampNeg 0) 13 68 ((B 13 68) + 1))) := fun X => zkp_ite zkp_S (zkp_upf (zkp_up (zkp_up (zkp_up zkp_S rfl rfl) rfl rfl) rfl rfl) rfl rfl)
    have hA : zkp [10, 63, 64] [10000] A (if (v < 0) then A else (if ((A 10 0) < 20) then (z_up (z_up (z_up A 63 (A 10 0).toNatClampNeg v) 64 (A 10 0).toNatClampNeg (A 0 11)) 10 0 ((A 10 0) + 1)) else A)) := zkp_ite zkp_S (zkp_ite (zkp_upf (zkp_up (zkp_up zkp_S rfl rfl) rfl rfl) rfl rfl) zkp_S)
    rw [p1] at p2 ⊢
    have hBx := hB (if (v < 0) then (v : Int32) else (if ((A 10 0) < 20) then ((A 10 0) : Int32) else (-11)))
    generalize hAA : (if (v < 0) then A else (if ((A 10 0) < 20) then (z_up (z_up (z_up A 63 (A 10 0).toNatClampNeg v) 64 (A 10 0).toNatClampNeg (A 0 11)) 10 0 ((A 10 0) + 1)) else A)) = A2 at *
    generalize (if (v < 0) then (v : Int32) else (if ((A 10 0) < 20) then ((A 10 0) : Int32) else (-11))) = w at *
    generalize (if (w < 0) then B else (z_up (z_up (z_up (z_up B 130 (B 13 68).toNatClampNeg v) 131 (B 13 68).toNatClampNeg (B 13 1)) 132 (B 13 68).toNatClampNeg 0) 13 68 ((B 13 68) + 1))) = B2 at *
    have hUm : zUm q1 B2 := fun j hj e1 e2 => k3 j (by rw [← hBx.2 13 45 rfl rfl]; exact hj) (by rw [← hBx.1 119 rfl]; exact e1) (by rw [← hBx.1 117 rfl]; exact e2)
    have fin := zcon p2 q1 q3 1 w 0 (by decide) hUm (fun e => zUse_kc rfl hA (zUse_km rfl hBx (k4 (p3 e))))
    exact ⟨⟨((p_G283 _ _ _ _ _).2 13 0 rfl rfl).trans ((hBx.2 13 0 rfl rfl).trans thr), fun _ => zup_s _ _ _ _⟩, zQ_R (zQ_out (zR_Q fin) _) (zU_out (zR_Use fin) _)⟩
  · have hF : F359_0_148 q1 q2 q3 q4 S = 1 := by unfold F359_0_148; exact (zb_01 _).resolve_left (by rw [zb_0]; simp only [zk_lt, zk_le, zlt_m1, zlt_0, zlt_1, zlt_2, zlt_3, zlt_4, zlt_5, zlt_6, zlt_7, zlt_8, zlt_9, zlt_10, zlt_15, zlt_16, zlt_20, zlt_24, zlt_30, zlt_36, zlt_39, zlt_40, zlt_50, zlt_72, zlt_100, zlt_199, zlt_200, zlt_215, zlt_216, zlt_255, zlt_256, zlt_1000, zlt_9999, zlt_65535, zlt_1000000000] at hC ⊢; omega)
    have hV : (zb ((¬ ((¬ (q2 < 0)) ∧ (¬ (3 < q2)))) ∨ ((¬ ((¬ (q3 < 0)) ∧ (¬ (215 < q3)))) ∨ (¬ ((¬ (q4 < 0)) ∧ (¬ (9999 < q4))))))) = 1 := (zb_01 _).resolve_left (by rw [zb_0]; simp only [zk_lt, zk_le, zlt_m1, zlt_0, zlt_1, zlt_2, zlt_3, zlt_4, zlt_5, zlt_6, zlt_7, zlt_8, zlt_9, zlt_10, zlt_15, zlt_16, zlt_20, zlt_24, zlt_30, zlt_36, zlt_39, zlt_40, zlt_50, zlt_72, zlt_100, zlt_199, zlt_200, zlt_215, zlt_216, zlt_255, zlt_256, zlt_1000, zlt_9999, zlt_65535, zlt_1000000000] at hC ⊢; omega)
    have e1 : G298 q1 q2 q3 q4 T = z_up T 13 0 1 := by unfold G298; rw [hV, if_neg (show ¬ ((1 : Int32) = 0) by decide)]
    have e2 : G359_0_148 q1 q2 q3 q4 S = S := by unfold G359_0_148; rw [if_neg hC]
    rw [e1, e2, hF]
    exact ⟨⟨zup_s _ _ _ _, fun e => absurd e (by decide)⟩, zQ_R (zQ_thr (zQ_up (zR_Q h)) 1) (zU_thr (zR_Use h) 1)⟩
theorem zyr39 {n : Nat} {S T : zS} (q1 : Int32) (q2 : Int32) (q3 : Int32) (q4 : Int32) (hn : n < 512) (h : zR n S T) : ((G298 q1 q2 q3 q4 T) 13 0) = (F359_0_148 q1 q2 q3 q4 S) ∧ ((F359_0_148 q1 q2 q3 q4 S) = 0 → ((G359_0_148 q1 q2 q3 q4 S) 148 0) = (F298 q1 q2 q3 q4 T)) := (zrq39 q1 q2 q3 q4 hn h).1
theorem zyt39_Eng {n : Nat} {S T : zS} (q1 : Int32) (q2 : Int32) (q3 : Int32) (q4 : Int32) (hn : n < 512) (h : zR n S T) : zEng (G359_0_148 q1 q2 q3 q4 S) (M39 q1 q2 q3 q4 T) := zR_Eng (zrq39 q1 q2 q3 q4 hn h).2
theorem zyt39_Tok {n : Nat} {S T : zS} (q1 : Int32) (q2 : Int32) (q3 : Int32) (q4 : Int32) (hn : n < 512) (h : zR n S T) : zTok (G359_0_148 q1 q2 q3 q4 S) (M39 q1 q2 q3 q4 T) := zR_Tok (zrq39 q1 q2 q3 q4 hn h).2
theorem zyt39_Lea {n : Nat} {S T : zS} (q1 : Int32) (q2 : Int32) (q3 : Int32) (q4 : Int32) (hn : n < 512) (h : zR n S T) : zLea (G359_0_148 q1 q2 q3 q4 S) (M39 q1 q2 q3 q4 T) := zR_Lea (zrq39 q1 q2 q3 q4 hn h).2
theorem zyt39_LT {n : Nat} {S T : zS} (q1 : Int32) (q2 : Int32) (q3 : Int32) (q4 : Int32) (hn : n < 512) (h : zR n S T) : zLT (G359_0_148 q1 q2 q3 q4 S) (M39 q1 q2 q3 q4 T) := zR_LT (zrq39 q1 q2 q3 q4 hn h).2
theorem zyt39_Use {n : Nat} {S T : zS} (q1 : Int32) (q2 : Int32) (q3 : Int32) (q4 : Int32) (hn : n < 512) (h : zR n S T) : zUse (G359_0_148 q1 q2 q3 q4 S) (M39 q1 q2 q3 q4 T) := zR_Use (zrq39 q1 q2 q3 q4 hn h).2
theorem zyt39_Wra {n : Nat} {S T : zS} (q1 : Int32) (q2 : Int32) (q3 : Int32) (q4 : Int32) (hn : n < 512) (h : zR n S T) : zWra (G359_0_148 q1 q2 q3 q4 S) (M39 q1 q2 q3 q4 T) := zR_Wra (zrq39 q1 q2 q3 q4 hn h).2
theorem zyt39_Cas {n : Nat} {S T : zS} (q1 : Int32) (q2 : Int32) (q3 : Int32) (q4 : Int32) (hn : n < 512) (h : zR n S T) : zCas (G359_0_148 q1 q2 q3 q4 S) (M39 q1 q2 q3 q4 T) := zR_Cas (zrq39 q1 q2 q3 q4 hn h).2
theorem zyt39_Sin {n : Nat} {S T : zS} (q1 : Int32) (q2 : Int32) (q3 : Int32) (q4 : Int32) (hn : n < 512) (h : zR n S T) : zSin (G359_0_148 q1 q2 q3 q4 S) (M39 q1 q2 q3 q4 T) := zR_Sin (zrq39 q1 q2 q3 q4 hn h).2
theorem zbits : ∀ k, k < 256 → F322 (Int32.ofNat k) (fun _ _ => 0) = K301_4_c1 (Int32.ofNat k) 0 0 (fun _ _ => 0) ∧ 0 ≤ (K301_4_c1 (Int32.ofNat k) 0 0 (fun _ _ => 0)).toInt := by decide +kernel
theorem zbit2 {x : Int32} (h : zn 255 x) (A B : zS) : F322 x A = K301_4_c1 x 0 0 B ∧ 0 ≤ (K301_4_c1 x 0 0 B).toInt := by
  have k := zbits x.toNatClampNeg (by have := zn_cl h; omega)
  rw [zk_of h.1] at k
  exact k
theorem zorp : ∀ k, k < 256 → ∀ p, p < 8 → 0 ≤ (Int32.ofNat k ||| zshl 1 (Int32.ofNat p)).toInt ∧ (Int32.ofNat k ||| zshl 1 (Int32.ofNat p)).toInt ≤ 255 := by decide +kernel
theorem zap {n : Nat} {S T : zS} (h : zQ n S T) (a b : Int32) (hb : zx 20 b) (hlt : b.toNatClampNeg < (T 13 72).toNatClampNeg) : F302 a b T = F206 a b S ∧ zQ n (G206 a b S) (G302 a b T) ∧ ¬ F206 a b S = -2 ∧ ¬ F206 a b S = -3 := by
  have hC := zQ_Cas h
  have hC' := hC
  unfold zCas at hC
  obtain ⟨h0, h1, h2, h3, h4, h5, h6, h7, h8, h9, h10, h11, h12, h13⟩ := hC
  have hT := zQ_Tok h
  have s32 : S 32 = T 111 := hT.2.2.2.1
  have hp := hT.2.2.2.2.2.2.2.2.2.2.2.2.2.2.1 a.toNatClampNeg
  have hbn : b.toNatClampNeg < 20 := by rw [zx_iff] at hb; have := zk_nat hb.1; omega
  have m2 : ∀ x : Int32, 0 ≤ x.toInt → ¬ x = -2 ∧ ¬ x = -3 := fun x hx => ⟨fun e => by rw [e] at hx; exact absurd hx (by decide), fun e => by rw [e] at hx; exact absurd hx (by decide)⟩
  have key : F302 a b T = F206 a b S ∧ zCas (G206 a b S) (G302 a b T) ∧ ¬ F206 a b S = -2 ∧ ¬ F206 a b S = -3 := by
    unfold F302 F206 G206 G302
    rw [h6, h1, s32, h5]
    by_cases c0 : T 138 b.toNatClampNeg = 0
    rotate_left
    · simp only [if_neg c0]; exact ⟨trivial, hC', by decide, by decide⟩
    by_cases c1 : T 111 a.toNatClampNeg = -1
    · by_cases c2 : a = T 133 b.toNatClampNeg
      · simp only [if_pos c0, if_pos c1, if_pos c2]; exact ⟨trivial, hC', by decide, by decide⟩
      · simp only [if_pos c0, if_pos c1, if_neg c2]; exact ⟨trivial, hC', by decide, by decide⟩
    by_cases c2 : a = T 133 b.toNatClampNeg
    · simp only [if_pos c0, if_neg c1, if_pos c2]; exact ⟨trivial, hC', by decide, by decide⟩
    by_cases c3 : T 111 a.toNatClampNeg = T 111 (T 133 b.toNatClampNeg).toNatClampNeg
    · simp only [if_pos c0, if_neg c1, if_neg c2, if_pos c3]; exact ⟨trivial, hC', by decide, by decide⟩
    simp only [if_pos c0, if_neg c1, if_neg c2, if_neg c3]
    have hpp : 0 ≤ (T 111 a.toNatClampNeg).toInt := by have : (T 111 a.toNatClampNeg).toInt ≠ -1 := fun q => c1 (zk_eq.mpr q); omega
    have hpn := zk_nat hpp
    have hx := h12 b.toNatClampNeg hbn
    have hor : zn 255 (T 137 b.toNatClampNeg ||| zshl 1 (T 111 a.toNatClampNeg)) := by
      have k := zorp (T 137 b.toNatClampNeg).toNatClampNeg (by have := zn_cl hx; omega) (T 111 a.toNatClampNeg).toNatClampNeg (by omega)
      rw [zk_of hx.1, zk_of hpp] at k
      exact k
    generalize T 137 b.toNatClampNeg ||| zshl 1 (T 111 a.toNatClampNeg) = v at *
    obtain ⟨q1, q2⟩ := zbit2 hor (z_up S 70 b.toNatClampNeg v) (z_up T 137 b.toNatClampNeg v)
    rw [q1]
    refine ⟨rfl, ?_, m2 _ q2⟩
    unfold zCas
    simp only [zup2, zup1, h0, h1, h2, h3, h4, h5, h6, Nat.reduceEqDiff, reduceIte, true_and, and_true, ite_true, ite_false]
    refine ⟨h7, ?_, h9, h10, h11, ?_, h13⟩
    · intro j hj
      rw [if_neg (by omega)]; exact h8 j hj
    · intro j hj
      split
      · exact hor
      · exact h12 j hj
  exact ⟨key.1, ⟨(zSeal_kc rfl (p_G206 a b S) (zSeal_km rfl (p_G302 a b T) (zQ_Seal h))), (zKey_kc rfl (p_G206 a b S) (zKey_km rfl (p_G302 a b T) (zQ_Key h))), (zEng_kc rfl (p_G206 a b S) (zEng_km rfl (p_G302 a b T) (zQ_Eng h))), (zRul_kc rfl (p_G206 a b S) (zRul_km rfl (p_G302 a b T) (zQ_Rul h))), (zPpl_kc rfl (p_G206 a b S) (zPpl_km rfl (p_G302 a b T) (zQ_Ppl h))), (zTok_kc rfl (p_G206 a b S) (zTok_km rfl (p_G302 a b T) (zQ_Tok h))), (zLea_kc rfl (p_G206 a b S) (zLea_km rfl (p_G302 a b T) (zQ_Lea h))), (zLT_kc rfl (p_G206 a b S) (zLT_km rfl (p_G302 a b T) (zQ_LT h))), (zSto_kc rfl (p_G206 a b S) (zSto_km rfl (p_G302 a b T) (zQ_Sto h))), (zFar_kc rfl (p_G206 a b S) (zFar_km rfl (p_G302 a b T) (zQ_Far h))), (zLog_kc rfl (p_G206 a b S) (zLog_km rfl (p_G302 a b T) (zQ_Log h))), (zWra_kc rfl (p_G206 a b S) (zWra_km rfl (p_G302 a b T) (zQ_Wra h))), key.2.1, (zCer_kc rfl (p_G206 a b S) (zCer_km rfl (p_G302 a b T) (zQ_Cer h))), (zSin_kc rfl (p_G206 a b S) (zSin_km rfl (p_G302 a b T) (zQ_Sin h)))⟩, key.2.2⟩
theorem ztu {n : Nat} {S T : zS} (h : zQ n S T) (a b : Int32) (hb : zx 20 b) (hlt : b.toNatClampNeg < (T 13 72).toNatClampNeg) : F304 a b T = F207 a b S ∧ zQ n (G207 a b S) (G304 a b T) ∧ ¬ F207 a b S = -2 ∧ ¬ F207 a b S = -3 := by
  have hC := zQ_Cas h
  have hC' := hC
  unfold zCas at hC
  obtain ⟨h0, h1, h2, h3, h4, h5, h6, h7, h8, h9, h10, h11, h12, h13⟩ := hC
  have hbn : b.toNatClampNeg < 20 := by rw [zx_iff] at hb; have := zk_nat hb.1; omega
  obtain ⟨k1, k2, k3⟩ := z288 h (T 134 b.toNatClampNeg) (T 135 b.toNatClampNeg) (h10 _ hbn)
  have idc : ∀ v, T 138 b.toNatClampNeg = v → zCas S (z_up T 138 b.toNatClampNeg v) := fun v e => by rw [zup_id T 138 _ _ e]; exact hC'
  have key : F304 a b T = F207 a b S ∧ zCas (G207 a b S) (G304 a b T) ∧ ¬ F207 a b S = -2 ∧ ¬ F207 a b S = -3 := by
    unfold F304 F207 G207 G304
    rw [h6, h1, h5, h4, h2, h3, ← k1]
    obtain ⟨q1, q2⟩ := zbit2 (h12 b.toNatClampNeg hbn) S T
    rw [q1]
    generalize F288 (T 134 b.toNatClampNeg) (T 135 b.toNatClampNeg) T = v at *
    generalize K301_4_c1 (T 137 b.toNatClampNeg) 0 0 T = w
    have eb : (¬ w < T 136 b.toNatClampNeg) = (T 136 b.toNatClampNeg ≤ w) := propext (by rw [zk_lt, zk_le]; omega)
    simp only [eb]
    by_cases c0 : T 138 b.toNatClampNeg = 0
    rotate_left
    · simp only [if_neg c0]; exact ⟨trivial, hC', by decide, by decide⟩
    by_cases c1 : a = T 133 b.toNatClampNeg
    rotate_left
    · simp only [if_pos c0, if_neg c1]; exact ⟨trivial, hC', by decide, by decide⟩
    by_cases c2 : T 136 b.toNatClampNeg ≤ w
    rotate_left
    · simp only [if_pos c0, if_pos c1, if_neg c2]
      refine ⟨trivial, idc _ ?_, by decide, by decide⟩
      rw [c0]; decide
    simp only [if_pos c0, if_pos c1, if_pos c2]
    refine ⟨trivial, ?_, k2, k3⟩
    by_cases c3 : v < 0
    · rw [if_pos c3]
      refine idc _ ?_
      rw [c0]; exact (if_neg (fun q => q c3)).symm
    · rw [if_neg c3, show zb (¬ v < 0) = 1 from if_pos c3]
      unfold zCas
      simp only [zup2, zup1, h0, h1, h2, h3, h4, h5, h6, Nat.reduceEqDiff, reduceIte, true_and, and_true, ite_true, ite_false]
      refine ⟨h7, ?_, h9, h10, h11, h12, ?_⟩
      · intro j hj
        rw [if_neg (by omega)]; exact h8 j hj
      · intro j hj
        split
        · exact Or.inr rfl
        · exact h13 j hj
  exact ⟨key.1, ⟨(zSeal_kc rfl (p_G207 a b S) (zSeal_km rfl (p_G304 a b T) (zQ_Seal h))), (zKey_kc rfl (p_G207 a b S) (zKey_km rfl (p_G304 a b T) (zQ_Key h))), (zEng_kc rfl (p_G207 a b S) (zEng_km rfl (p_G304 a b T) (zQ_Eng h))), (zRul_kc rfl (p_G207 a b S) (zRul_km rfl (p_G304 a b T) (zQ_Rul h))), (zPpl_kc rfl (p_G207 a b S) (zPpl_km rfl (p_G304 a b T) (zQ_Ppl h))), (zTok_kc rfl (p_G207 a b S) (zTok_km rfl (p_G304 a b T) (zQ_Tok h))), (zLea_kc rfl (p_G207 a b S) (zLea_km rfl (p_G304 a b T) (zQ_Lea h))), (zLT_kc rfl (p_G207 a b S) (zLT_km rfl (p_G304 a b T) (zQ_LT h))), (zSto_kc rfl (p_G207 a b S) (zSto_km rfl (p_G304 a b T) (zQ_Sto h))), (zFar_kc rfl (p_G207 a b S) (zFar_km rfl (p_G304 a b T) (zQ_Far h))), (zLog_kc rfl (p_G207 a b S) (zLog_km rfl (p_G304 a b T) (zQ_Log h))), (zWra_kc rfl (p_G207 a b S) (zWra_km rfl (p_G304 a b T) (zQ_Wra h))), key.2.1, (zCer_kc rfl (p_G207 a b S) (zCer_km rfl (p_G304 a b T) (zQ_Cer h))), (zSin_kc rfl (p_G207 a b S) (zSin_km rfl (p_G304 a b T) (zQ_Sin h)))⟩, key.2.2⟩
theorem zrq41 {n : Nat} {S T : zS} (q1 : Int32) (q2 : Int32) (q3 : Int32) (hn : n < 512) (h : zR n S T) : (((G303 q1 q2 q3 T) 13 0) = (F361_0_148 q1 q2 q3 S) ∧ ((F361_0_148 q1 q2 q3 S) = 0 → ((G361_0_148 q1 q2 q3 S) 148 0) = (F303 q1 q2 q3 T))) ∧ zR (n + 1) (G361_0_148 q1 q2 q3 S) (M41 q1 q2 q3 T) := by
  have hQ := zR_Q h
  have hC := zQ_Cas hQ
  have e10 : S 10 4 = T 13 72 := hC.1
  have e67 : S 67 = T 134 := hC.2.2.1
  have hn20 := hC.2.2.2.2.2.2.2.1
  have hz20 : ((T 13 72 - 1) < q3) = (T 13 72 ≤ q3) := zt_le (zn_mono hn20 (by decide))
  have h' : zR n S (z_up T 13 0 0) := zQ_R (zQ_thr hQ 0) (zU_thr (zR_Use h) 0)
  have e3q : (3 < q2) = (4 ≤ q2) := propext (by simp only [zk_lt, zk_le, zlt_m1, zlt_0, zlt_1, zlt_2, zlt_3, zlt_4, zlt_5, zlt_6, zlt_7, zlt_8, zlt_9, zlt_10, zlt_15, zlt_16, zlt_20, zlt_24, zlt_30, zlt_36, zlt_39, zlt_40, zlt_50, zlt_72, zlt_100, zlt_199, zlt_200, zlt_215, zlt_216, zlt_255, zlt_256, zlt_1000, zlt_9999, zlt_65535, zlt_1000000000]; omega)
  have eV : (if ((¬ (q3 < 0)) ∧ (¬ (((T 13 72) - 1) < q3))) then ((if ((¬ (q2 < 0)) ∧ (¬ (3 < q2))) then (0 : Int32) else 2) : Int32) else 1) = F361_0_148 q1 q2 q3 S := by unfold F361_0_148; simp only [hz20, e3q, e10]
  unfold M41
  by_cases hA : ((¬ (q3 < 0)) ∧ (¬ ((S 10 4) ≤ q3)))
  rotate_left
  · have eF : F361_0_148 q1 q2 q3 S = 1 := by unfold F361_0_148; rw [if_neg hA]
    have e1 : G303 q1 q2 q3 T = z_up T 13 0 1 := by unfold G303; rw [eV, eF, if_neg (show ¬ ((1 : Int32) = 0) by decide)]
    have e2 : G361_0_148 q1 q2 q3 S = S := by unfold G361_0_148; rw [if_neg hA]
    rw [e1, e2, eF]
    exact ⟨⟨zup_s _ _ _ _, fun e => absurd e (by decide)⟩, zQ_R (zQ_thr (zQ_up hQ) 1) (zU_thr (zR_Use h) 1)⟩
  by_cases hB : ((¬ (q2 < 0)) ∧ (¬ (4 ≤ q2)))
  rotate_left
  · have eF : F361_0_148 q1 q2 q3 S = 2 := by unfold F361_0_148; rw [if_pos hA, if_neg hB]
    have e1 : G303 q1 q2 q3 T = z_up T 13 0 2 := by unfold G303; rw [eV, eF, if_neg (show ¬ ((2 : Int32) = 0) by decide)]
    have e2 : G361_0_148 q1 q2 q3 S = S := by unfold G361_0_148; rw [if_pos hA, if_neg hB]
    rw [e1, e2, eF]
    exact ⟨⟨zup_s _ _ _ _, fun e => absurd e (by decide)⟩, zQ_R (zQ_thr (zQ_up hQ) 2) (zU_thr (zR_Use h) 2)⟩
  have hA' := hA
  rw [e10, zk_lt, zlt_0, zk_le] at hA'
  have hq3 := zk_nat (x := q3) (by omega)
  have hq72 := zk_nat hn20.1
  have hb : zx 20 q3 := by rw [zx_iff]; have := hn20.2; omega
  have hlt : q3.toNatClampNeg < (T 13 72).toNatClampNeg := by omega
  have hx : zx 216 (T 134 q3.toNatClampNeg) := hC.2.2.2.2.2.2.2.2.2.2.1 _ (by have := hn20.2; omega)
  have eF : F361_0_148 q1 q2 q3 S = 0 := by unfold F361_0_148; rw [if_pos hA, if_pos hB]
  have t134 : ∀ b c d, (G282 q1 b c d (z_up T 13 0 0)) 134 = T 134 := fun b c d => ((p_G282 q1 b c d (z_up T 13 0 0)).1 134 rfl).trans (zupc rfl)
  have t72 : ∀ b c d, (G282 q1 b c d (z_up T 13 0 0)) 13 72 = T 13 72 := fun b c d => ((p_G282 q1 b c d (z_up T 13 0 0)).2 13 72 rfl rfl).trans (zupf rfl)
  have key := zreq (m := n + 1) (GS := G206 q1 q3 (G196 q1 q2 (T 134 q3.toNatClampNeg) 8 S)) (GT := G302 q1 q3 (G282 q1 q2 (T 134 q3.toNatClampNeg) 8 (z_up T 13 0 0))) (FS := F206 q1 q3 (G196 q1 q2 (T 134 q3.toNatClampNeg) 8 S)) (FT := F302 q1 q3 (G282 q1 q2 (T 134 q3.toNatClampNeg) 8 (z_up T 13 0 0))) h' zQ_up q1 q2 (T 134 q3.toNatClampNeg) 8 3 hx (by decide) (fun z1 z2 z3 z4 => (fun w => ⟨w.1, zQ_up w.2.1, w.2.2⟩) (zap z1 q1 q3 hb (by rw [t72]; exact hlt))) ((p_G302 _ _ _).2 13 45 rfl rfl) ((p_G302 _ _ _).1 119 rfl) ((p_G302 _ _ _).1 117 rfl)
  have e1 : G303 q1 q2 q3 T = (G283 q1 ((G282 q1 q2 (T 134 q3.toNatClampNeg) 8 (z_up T 13 0 0)) 134 q3.toNatClampNeg) 3 (if (0 ≤ (F282 q1 q2 (T 134 q3.toNatClampNeg) 8 (z_up T 13 0 0))) then ((F302 q1 q3 (G282 q1 q2 (T 134 q3.toNatClampNeg) 8 (z_up T 13 0 0))) : Int32) else (F282 q1 q2 (T 134 q3.toNatClampNeg) 8 (z_up T 13 0 0))) (if (0 ≤ (F282 q1 q2 (T 134 q3.toNatClampNeg) 8 (z_up T 13 0 0))) then (G302 q1 q3 (G282 q1 q2 (T 134 q3.toNatClampNeg) 8 (z_up T 13 0 0))) else (G282 q1 q2 (T 134 q3.toNatClampNeg) 8 (z_up T 13 0 0)))) := by unfold G303; rw [eV, eF, if_pos rfl]
  have e2 : G361_0_148 q1 q2 q3 S = (z_up (G197 q1 (S 67 q3.toNatClampNeg) 8 (if ((F196 q1 q2 (S 67 q3.toNatClampNeg) 8 S) = 0) then ((F206 q1 q3 (G196 q1 q2 (S 67 q3.toNatClampNeg) 8 S)) : Int32) else (F196 q1 q2 (S 67 q3.toNatClampNeg) 8 S)) (if ((F196 q1 q2 (S 67 q3.toNatClampNeg) 8 S) = 0) then (G206 q1 q3 (G196 q1 q2 (S 67 q3.toNatClampNeg) 8 S)) else (G196 q1 q2 (S 67 q3.toNatClampNeg) 8 S))) 148 0 (if ((F196 q1 q2 (S 67 q3.toNatClampNeg) 8 S) = 0) then ((F206 q1 q3 (G196 q1 q2 (S 67 q3.toNatClampNeg) 8 S)) : Int32) else (F196 q1 q2 (S 67 q3.toNatClampNeg) 8 S))) := by unfold G361_0_148; rw [if_pos hA, if_pos hB]
  have e4 : F303 q1 q2 q3 T = (if (0 ≤ (F282 q1 q2 (T 134 q3.toNatClampNeg) 8 (z_up T 13 0 0))) then ((F302 q1 q3 (G282 q1 q2 (T 134 q3.toNatClampNeg) 8 (z_up T 13 0 0))) : Int32) else (F282 q1 q2 (T 134 q3.toNatClampNeg) 8 (z_up T 13 0 0))) := by unfold F303; rw [eV, eF, if_pos rfl]
  have thr : (if (0 ≤ (F282 q1 q2 (T 134 q3.toNatClampNeg) 8 (z_up T 13 0 0))) then (G302 q1 q3 (G282 q1 q2 (T 134 q3.toNatClampNeg) 8 (z_up T 13 0 0))) else (G282 q1 q2 (T 134 q3.toNatClampNeg) 8 (z_up T 13 0 0))) 13 0 = 0 := by
    split
    · exact ((p_G302 _ _ _).2 13 0 rfl rfl).trans (((p_G282 _ _ _ _ _).2 13 0 rfl rfl).trans (zup_s _ _ _ _))
    · exact ((p_G282 _ _ _ _ _).2 13 0 rfl rfl).trans (zup_s _ _ _ _)
  rw [e1, e2, eF, e4, t134, e67]
  exact ⟨⟨((p_G283 _ _ _ _ _).2 13 0 rfl rfl).trans thr, fun _ => (zup_s _ _ _ _).trans key.1.symm⟩, zQ_R (zQ_out (zR_Q key.2) _) (zU_out (zR_Use key.2) _)⟩
theorem zyr41 {n : Nat} {S T : zS} (q1 : Int32) (q2 : Int32) (q3 : Int32) (hn : n < 512) (h : zR n S T) : ((G303 q1 q2 q3 T) 13 0) = (F361_0_148 q1 q2 q3 S) ∧ ((F361_0_148 q1 q2 q3 S) = 0 → ((G361_0_148 q1 q2 q3 S) 148 0) = (F303 q1 q2 q3 T)) := (zrq41 q1 q2 q3 hn h).1
theorem zyt41_Eng {n : Nat} {S T : zS} (q1 : Int32) (q2 : Int32) (q3 : Int32) (hn : n < 512) (h : zR n S T) : zEng (G361_0_148 q1 q2 q3 S) (M41 q1 q2 q3 T) := zR_Eng (zrq41 q1 q2 q3 hn h).2
theorem zyt41_Tok {n : Nat} {S T : zS} (q1 : Int32) (q2 : Int32) (q3 : Int32) (hn : n < 512) (h : zR n S T) : zTok (G361_0_148 q1 q2 q3 S) (M41 q1 q2 q3 T) := zR_Tok (zrq41 q1 q2 q3 hn h).2
theorem zyt41_Lea {n : Nat} {S T : zS} (q1 : Int32) (q2 : Int32) (q3 : Int32) (hn : n < 512) (h : zR n S T) : zLea (G361_0_148 q1 q2 q3 S) (M41 q1 q2 q3 T) := zR_Lea (zrq41 q1 q2 q3 hn h).2
theorem zyt41_LT {n : Nat} {S T : zS} (q1 : Int32) (q2 : Int32) (q3 : Int32) (hn : n < 512) (h : zR n S T) : zLT (G361_0_148 q1 q2 q3 S) (M41 q1 q2 q3 T) := zR_LT (zrq41 q1 q2 q3 hn h).2
theorem zyt41_Use {n : Nat} {S T : zS} (q1 : Int32) (q2 : Int32) (q3 : Int32) (hn : n < 512) (h : zR n S T) : zUse (G361_0_148 q1 q2 q3 S) (M41 q1 q2 q3 T) := zR_Use (zrq41 q1 q2 q3 hn h).2
theorem zyt41_Cas {n : Nat} {S T : zS} (q1 : Int32) (q2 : Int32) (q3 : Int32) (hn : n < 512) (h : zR n S T) : zCas (G361_0_148 q1 q2 q3 S) (M41 q1 q2 q3 T) := zR_Cas (zrq41 q1 q2 q3 hn h).2
theorem zyt41_Sin {n : Nat} {S T : zS} (q1 : Int32) (q2 : Int32) (q3 : Int32) (hn : n < 512) (h : zR n S T) : zSin (G361_0_148 q1 q2 q3 S) (M41 q1 q2 q3 T) := zR_Sin (zrq41 q1 q2 q3 hn h).2
theorem zrq42 {n : Nat} {S T : zS} (q1 : Int32) (q2 : Int32) (q3 : Int32) (hn : n < 512) (h : zR n S T) : (((G305 q1 q2 q3 T) 13 0) = (F362_0_148 q1 q2 q3 S) ∧ ((F362_0_148 q1 q2 q3 S) = 0 → ((G362_0_148 q1 q2 q3 S) 148 0) = (F305 q1 q2 q3 T))) ∧ zR (n + 1) (G362_0_148 q1 q2 q3 S) (M42 q1 q2 q3 T) := by
  have hQ := zR_Q h
  have hC := zQ_Cas hQ
  have e10 : S 10 4 = T 13 72 := hC.1
  have e67 : S 67 = T 134 := hC.2.2.1
  have hn20 := hC.2.2.2.2.2.2.2.1
  have hz20 : ((T 13 72 - 1) < q3) = (T 13 72 ≤ q3) := zt_le (zn_mono hn20 (by decide))
  have h' : zR n S (z_up T 13 0 0) := zQ_R (zQ_thr hQ 0) (zU_thr (zR_Use h) 0)
  have e3q : (3 < q2) = (4 ≤ q2) := propext (by simp only [zk_lt, zk_le, zlt_m1, zlt_0, zlt_1, zlt_2, zlt_3, zlt_4, zlt_5, zlt_6, zlt_7, zlt_8, zlt_9, zlt_10, zlt_15, zlt_16, zlt_20, zlt_24, zlt_30, zlt_36, zlt_39, zlt_40, zlt_50, zlt_72, zlt_100, zlt_199, zlt_200, zlt_215, zlt_216, zlt_255, zlt_256, zlt_1000, zlt_9999, zlt_65535, zlt_1000000000]; omega)
  have eV : (if ((¬ (q3 < 0)) ∧ (¬ (((T 13 72) - 1) < q3))) then ((if ((¬ (q2 < 0)) ∧ (¬ (3 < q2))) then (0 : Int32) else 2) : Int32) else 1) = F362_0_148 q1 q2 q3 S := by unfold F362_0_148; simp only [hz20, e3q, e10]
  unfold M42
  by_cases hA : ((¬ (q3 < 0)) ∧ (¬ ((S 10 4) ≤ q3)))
  rotate_left
  · have eF : F362_0_148 q1 q2 q3 S = 1 := by unfold F362_0_148; rw [if_neg hA]
    have e1 : G305 q1 q2 q3 T = z_up T 13 0 1 := by unfold G305; rw [eV, eF, if_neg (show ¬ ((1 : Int32) = 0) by decide)]
    have e2 : G362_0_148 q1 q2 q3 S = S := by unfold G362_0_148; rw [if_neg hA]
    rw [e1, e2, eF]
    exact ⟨⟨zup_s _ _ _ _, fun e => absurd e (by decide)⟩, zQ_R (zQ_thr (zQ_up hQ) 1) (zU_thr (zR_Use h) 1)⟩
  by_cases hB : ((¬ (q2 < 0)) ∧ (¬ (4 ≤ q2)))
  rotate_left
  · have eF : F362_0_148 q1 q2 q3 S = 2 := by unfold F362_0_148; rw [if_pos hA, if_neg hB]
    have e1 : G305 q1 q2 q3 T = z_up T 13 0 2 := by unfold G305; rw [eV, eF, if_neg (show ¬ ((2 : Int32) = 0) by decide)]
    have e2 : G362_0_148 q1 q2 q3 S = S := by unfold G362_0_148; rw [if_pos hA, if_neg hB]
    rw [e1, e2, eF]
    exact ⟨⟨zup_s _ _ _ _, fun e => absurd e (by decide)⟩, zQ_R (zQ_thr (zQ_up hQ) 2) (zU_thr (zR_Use h) 2)⟩
  have hA' := hA
  rw [e10, zk_lt, zlt_0, zk_le] at hA'
  have hq3 := zk_nat (x := q3) (by omega)
  have hq72 := zk_nat hn20.1
  have hb : zx 20 q3 := by rw [zx_iff]; have := hn20.2; omega
  have hlt : q3.toNatClampNeg < (T 13 72).toNatClampNeg := by omega
  have hx : zx 216 (T 134 q3.toNatClampNeg) := hC.2.2.2.2.2.2.2.2.2.2.1 _ (by have := hn20.2; omega)
  have eF : F362_0_148 q1 q2 q3 S = 0 := by unfold F362_0_148; rw [if_pos hA, if_pos hB]
  have t134 : ∀ b c d, (G282 q1 b c d (z_up T 13 0 0)) 134 = T 134 := fun b c d => ((p_G282 q1 b c d (z_up T 13 0 0)).1 134 rfl).trans (zupc rfl)
  have t72 : ∀ b c d, (G282 q1 b c d (z_up T 13 0 0)) 13 72 = T 13 72 := fun b c d => ((p_G282 q1 b c d (z_up T 13 0 0)).2 13 72 rfl rfl).trans (zupf rfl)
  have key := zreq (m := n + 1) (GS := G207 q1 q3 (G196 q1 q2 (T 134 q3.toNatClampNeg) 1 S)) (GT := G304 q1 q3 (G282 q1 q2 (T 134 q3.toNatClampNeg) 1 (z_up T 13 0 0))) (FS := F207 q1 q3 (G196 q1 q2 (T 134 q3.toNatClampNeg) 1 S)) (FT := F304 q1 q3 (G282 q1 q2 (T 134 q3.toNatClampNeg) 1 (z_up T 13 0 0))) h' zQ_up q1 q2 (T 134 q3.toNatClampNeg) 1 0 hx (by decide) (fun z1 z2 z3 z4 => (fun w => ⟨w.1, zQ_up w.2.1, w.2.2⟩) (ztu z1 q1 q3 hb (by rw [t72]; exact hlt))) ((p_G304 _ _ _).2 13 45 rfl rfl) ((p_G304 _ _ _).1 119 rfl) ((p_G304 _ _ _).1 117 rfl)
  have e1 : G305 q1 q2 q3 T = (G283 q1 ((G282 q1 q2 (T 134 q3.toNatClampNeg) 1 (z_up T 13 0 0)) 134 q3.toNatClampNeg) 0 (if (0 ≤ (F282 q1 q2 (T 134 q3.toNatClampNeg) 1 (z_up T 13 0 0))) then ((F304 q1 q3 (G282 q1 q2 (T 134 q3.toNatClampNeg) 1 (z_up T 13 0 0))) : Int32) else (F282 q1 q2 (T 134 q3.toNatClampNeg) 1 (z_up T 13 0 0))) (if (0 ≤ (F282 q1 q2 (T 134 q3.toNatClampNeg) 1 (z_up T 13 0 0))) then (G304 q1 q3 (G282 q1 q2 (T 134 q3.toNatClampNeg) 1 (z_up T 13 0 0))) else (G282 q1 q2 (T 134 q3.toNatClampNeg) 1 (z_up T 13 0 0)))) := by unfold G305; rw [eV, eF, if_pos rfl]
  have e2 : G362_0_148 q1 q2 q3 S = (z_up (G197 q1 (S 67 q3.toNatClampNeg) 1 (if ((F196 q1 q2 (S 67 q3.toNatClampNeg) 1 S) = 0) then ((F207 q1 q3 (G196 q1 q2 (S 67 q3.toNatClampNeg) 1 S)) : Int32) else (F196 q1 q2 (S 67 q3.toNatClampNeg) 1 S)) (if ((F196 q1 q2 (S 67 q3.toNatClampNeg) 1 S) = 0) then (G207 q1 q3 (G196 q1 q2 (S 67 q3.toNatClampNeg) 1 S)) else (G196 q1 q2 (S 67 q3.toNatClampNeg) 1 S))) 148 0 (if ((F196 q1 q2 (S 67 q3.toNatClampNeg) 1 S) = 0) then ((F207 q1 q3 (G196 q1 q2 (S 67 q3.toNatClampNeg) 1 S)) : Int32) else (F196 q1 q2 (S 67 q3.toNatClampNeg) 1 S))) := by unfold G362_0_148; rw [if_pos hA, if_pos hB]
  have e4 : F305 q1 q2 q3 T = (if (0 ≤ (F282 q1 q2 (T 134 q3.toNatClampNeg) 1 (z_up T 13 0 0))) then ((F304 q1 q3 (G282 q1 q2 (T 134 q3.toNatClampNeg) 1 (z_up T 13 0 0))) : Int32) else (F282 q1 q2 (T 134 q3.toNatClampNeg) 1 (z_up T 13 0 0))) := by unfold F305; rw [eV, eF, if_pos rfl]
  have thr : (if (0 ≤ (F282 q1 q2 (T 134 q3.toNatClampNeg) 1 (z_up T 13 0 0))) then (G304 q1 q3 (G282 q1 q2 (T 134 q3.toNatClampNeg) 1 (z_up T 13 0 0))) else (G282 q1 q2 (T 134 q3.toNatClampNeg) 1 (z_up T 13 0 0))) 13 0 = 0 := by
    split
    · exact ((p_G304 _ _ _).2 13 0 rfl rfl).trans (((p_G282 _ _ _ _ _).2 13 0 rfl rfl).trans (zup_s _ _ _ _))
    · exact ((p_G282 _ _ _ _ _).2 13 0 rfl rfl).trans (zup_s _ _ _ _)
  rw [e1, e2, eF, e4, t134, e67]
  exact ⟨⟨((p_G283 _ _ _ _ _).2 13 0 rfl rfl).trans thr, fun _ => (zup_s _ _ _ _).trans key.1.symm⟩, zQ_R (zQ_out (zR_Q key.2) _) (zU_out (zR_Use key.2) _)⟩
theorem zyr42 {n : Nat} {S T : zS} (q1 : Int32) (q2 : Int32) (q3 : Int32) (hn : n < 512) (h : zR n S T) : ((G305 q1 q2 q3 T) 13 0) = (F362_0_148 q1 q2 q3 S) ∧ ((F362_0_148 q1 q2 q3 S) = 0 → ((G362_0_148 q1 q2 q3 S) 148 0) = (F305 q1 q2 q3 T)) := (zrq42 q1 q2 q3 hn h).1
theorem zyt42_Eng {n : Nat} {S T : zS} (q1 : Int32) (q2 : Int32) (q3 : Int32) (hn : n < 512) (h : zR n S T) : zEng (G362_0_148 q1 q2 q3 S) (M42 q1 q2 q3 T) := zR_Eng (zrq42 q1 q2 q3 hn h).2
theorem zyt42_Tok {n : Nat} {S T : zS} (q1 : Int32) (q2 : Int32) (q3 : Int32) (hn : n < 512) (h : zR n S T) : zTok (G362_0_148 q1 q2 q3 S) (M42 q1 q2 q3 T) := zR_Tok (zrq42 q1 q2 q3 hn h).2
theorem zyt42_Lea {n : Nat} {S T : zS} (q1 : Int32) (q2 : Int32) (q3 : Int32) (hn : n < 512) (h : zR n S T) : zLea (G362_0_148 q1 q2 q3 S) (M42 q1 q2 q3 T) := zR_Lea (zrq42 q1 q2 q3 hn h).2
theorem zyt42_LT {n : Nat} {S T : zS} (q1 : Int32) (q2 : Int32) (q3 : Int32) (hn : n < 512) (h : zR n S T) : zLT (G362_0_148 q1 q2 q3 S) (M42 q1 q2 q3 T) := zR_LT (zrq42 q1 q2 q3 hn h).2
theorem zyt42_Use {n : Nat} {S T : zS} (q1 : Int32) (q2 : Int32) (q3 : Int32) (hn : n < 512) (h : zR n S T) : zUse (G362_0_148 q1 q2 q3 S) (M42 q1 q2 q3 T) := zR_Use (zrq42 q1 q2 q3 hn h).2
theorem zyt42_Cas {n : Nat} {S T : zS} (q1 : Int32) (q2 : Int32) (q3 : Int32) (hn : n < 512) (h : zR n S T) : zCas (G362_0_148 q1 q2 q3 S) (M42 q1 q2 q3 T) := zR_Cas (zrq42 q1 q2 q3 hn h).2
theorem zyt42_Sin {n : Nat} {S T : zS} (q1 : Int32) (q2 : Int32) (q3 : Int32) (hn : n < 512) (h : zR n S T) : zSin (G362_0_148 q1 q2 q3 S) (M42 q1 q2 q3 T) := zR_Sin (zrq42 q1 q2 q3 hn h).2
