/-! tokens, merging (wip/whole/gen/gen91.py) -/
theorem zupd2 (f : Nat → Int32) (i : Nat) (v w : Int32) : upd (upd f i v) i w = upd f i w := by
  funext j
  rw [upd_r, upd_r, upd_r]
  split <;> rfl
theorem zpush {n : Nat} {S T : zS} (h : zR n S T) (a b p c e l k d f g o : Int32) (hlt : T 13 45 < 40) (hl : ¬ b = 2 → l = k) (hk : b = 2 → k = 1000000000) (hd : zn 100 d) (ha : a = -1 ∨ (0 ≤ a.toInt ∧ a.toInt < (T 13 45).toInt)) (hp : -1 ≤ p.toInt ∧ p.toInt ≤ 7) (ho : zo o) (hf : -1 ≤ f.toInt ∧ f.toInt ≤ 20) (hf0 : ¬ f = 0) : zR n (z_up (z_up (z_up (z_up (z_up (z_up (z_up (z_up (z_up (z_up (z_up S 30 (T 13 45).toNatClampNeg a) 31 (T 13 45).toNatClampNeg b) 32 (T 13 45).toNatClampNeg p) 33 (T 13 45).toNatClampNeg c) 5 0 ((T 13 45) + 1)) 34 (T 13 45).toNatClampNeg e) 35 (T 13 45).toNatClampNeg l) 36 (T 13 45).toNatClampNeg d) 37 (T 13 45).toNatClampNeg f) 38 (T 13 45).toNatClampNeg g) 39 (T 13 45).toNatClampNeg o) (z_up (z_up (z_up (z_up (z_up (z_up (z_up (z_up (z_up (z_up (z_up (z_up (z_up (z_up (z_up (z_up T 109 (T 13 45).toNatClampNeg b) 110 (T 13 45).toNatClampNeg a) 111 (T 13 45).toNatClampNeg p) 112 (T 13 45).toNatClampNeg c) 113 (T 13 45).toNatClampNeg e) 114 (T 13 45).toNatClampNeg k) 115 (T 13 45).toNatClampNeg 0) 116 (T 13 45).toNatClampNeg 15) 117 (T 13 45).toNatClampNeg (-1)) 118 (T 13 45).toNatClampNeg 0) 119 (T 13 45).toNatClampNeg 0) 13 45 ((T 13 45) + 1)) 115 (T 13 45).toNatClampNeg d) 116 (T 13 45).toNatClampNeg g) 117 (T 13 45).toNatClampNeg f) 118 (T 13 45).toNatClampNeg o) := by
  have hQ := zR_Q h
  have hT := zQ_Tok hQ
  have hU := zR_Use h
  have hLT := zQ_LT hQ
  have hC := zQ_Cas hQ
  have hT' := hT
  unfold zTok at hT'
  obtain ⟨k0, k1, k2, k3, k4, k5, k6, k7, k8, k9, k10, k11, k12, k13, k14, k15, k16, k17, k18, k19⟩ := hT'
  rw [zk_lt, zlt_40] at hlt
  have g1 : (T 13 45 + 1).toInt = (T 13 45).toInt + 1 := by have := k10.1; rw [zk_tadd (by rw [zk_1]; omega) (by rw [zk_1]; omega), zk_1]
  have g2 := zk_nat k10.1
  have g3 := zk_nat (x := T 13 45 + 1) (by have := k10.1; omega)
  have u : upd (T 119) (T 13 45).toNatClampNeg 0 = T 119 := zupd_s _ _ _ (k15 _ (Nat.le_refl _))
  have hpS : zkp [5, 30, 31, 32, 33, 34, 35, 36, 37, 38, 39] [5000] S (z_up (z_up (z_up (z_up (z_up (z_up (z_up (z_up (z_up (z_up (z_up S 30 (T 13 45).toNatClampNeg a) 31 (T 13 45).toNatClampNeg b) 32 (T 13 45).toNatClampNeg p) 33 (T 13 45).toNatClampNeg c) 5 0 ((T 13 45) + 1)) 34 (T 13 45).toNatClampNeg e) 35 (T 13 45).toNatClampNeg l) 36 (T 13 45).toNatClampNeg d) 37 (T 13 45).toNatClampNeg f) 38 (T 13 45).toNatClampNeg g) 39 (T 13 45).toNatClampNeg o) := zkp_up (zkp_up (zkp_up (zkp_up (zkp_up (zkp_up (zkp_upf (zkp_up (zkp_up (zkp_up (zkp_up zkp_S rfl rfl) rfl rfl) rfl rfl) rfl rfl) rfl rfl) rfl rfl) rfl rfl) rfl rfl) rfl rfl) rfl rfl) rfl rfl
  have hpT : zkp [13, 109, 110, 111, 112, 113, 114, 115, 116, 117, 118, 119] [13045] T (z_up (z_up (z_up (z_up (z_up (z_up (z_up (z_up (z_up (z_up (z_up (z_up (z_up (z_up (z_up (z_up T 109 (T 13 45).toNatClampNeg b) 110 (T 13 45).toNatClampNeg a) 111 (T 13 45).toNatClampNeg p) 112 (T 13 45).toNatClampNeg c) 113 (T 13 45).toNatClampNeg e) 114 (T 13 45).toNatClampNeg k) 115 (T 13 45).toNatClampNeg 0) 116 (T 13 45).toNatClampNeg 15) 117 (T 13 45).toNatClampNeg (-1)) 118 (T 13 45).toNatClampNeg 0) 119 (T 13 45).toNatClampNeg 0) 13 45 ((T 13 45) + 1)) 115 (T 13 45).toNatClampNeg d) 116 (T 13 45).toNatClampNeg g) 117 (T 13 45).toNatClampNeg f) 118 (T 13 45).toNatClampNeg o) := zkp_up (zkp_up (zkp_up (zkp_up (zkp_upf (zkp_up (zkp_up (zkp_up (zkp_up (zkp_up (zkp_up (zkp_up (zkp_up (zkp_up (zkp_up (zkp_up zkp_S rfl rfl) rfl rfl) rfl rfl) rfl rfl) rfl rfl) rfl rfl) rfl rfl) rfl rfl) rfl rfl) rfl rfl) rfl rfl) rfl rfl) rfl rfl) rfl rfl) rfl rfl) rfl rfl
  have kT : zTok (z_up (z_up (z_up (z_up (z_up (z_up (z_up (z_up (z_up (z_up (z_up S 30 (T 13 45).toNatClampNeg a) 31 (T 13 45).toNatClampNeg b) 32 (T 13 45).toNatClampNeg p) 33 (T 13 45).toNatClampNeg c) 5 0 ((T 13 45) + 1)) 34 (T 13 45).toNatClampNeg e) 35 (T 13 45).toNatClampNeg l) 36 (T 13 45).toNatClampNeg d) 37 (T 13 45).toNatClampNeg f) 38 (T 13 45).toNatClampNeg g) 39 (T 13 45).toNatClampNeg o) (z_up (z_up (z_up (z_up (z_up (z_up (z_up (z_up (z_up (z_up (z_up (z_up (z_up (z_up (z_up (z_up T 109 (T 13 45).toNatClampNeg b) 110 (T 13 45).toNatClampNeg a) 111 (T 13 45).toNatClampNeg p) 112 (T 13 45).toNatClampNeg c) 113 (T 13 45).toNatClampNeg e) 114 (T 13 45).toNatClampNeg k) 115 (T 13 45).toNatClampNeg 0) 116 (T 13 45).toNatClampNeg 15) 117 (T 13 45).toNatClampNeg (-1)) 118 (T 13 45).toNatClampNeg 0) 119 (T 13 45).toNatClampNeg 0) 13 45 ((T 13 45) + 1)) 115 (T 13 45).toNatClampNeg d) 116 (T 13 45).toNatClampNeg g) 117 (T 13 45).toNatClampNeg f) 118 (T 13 45).toNatClampNeg o) := by
    unfold zTok
    simp only [zup2, zup1, zupd2, u, k0, k1, k2, k3, k4, k5, k6, k7, k8, k9, Nat.reduceEqDiff, reduceIte, true_and, and_true, ite_true, ite_false, upd_r]
    refine ⟨?_, ?_, ?_, ?_, ?_, ?_, ?_, ?_, ?_, ?_⟩
    · have := k10.1; unfold zn; omega
    · intro j
      by_cases ej : j = (T 13 45).toNatClampNeg
      · simp only [if_pos ej]; exact hl
      · simp only [if_neg ej]; exact k11 j
    · intro j
      by_cases ej : j = (T 13 45).toNatClampNeg
      · simp only [if_pos ej]; exact fun e9 => ⟨hk e9, trivial, hd⟩
      · simp only [if_neg ej]; exact k12 j
    · intro j hj
      by_cases ej : j = (T 13 45).toNatClampNeg
      · simp only [if_pos ej]
        rcases ha with ha | ha
        · exact Or.inl ha
        · exact Or.inr ⟨ha.1, by omega⟩
      · simp only [if_neg ej]
        rcases k13 j (by omega) with q | q
        · exact Or.inl q
        · exact Or.inr ⟨q.1, by omega⟩
    · intro j
      split
      · exact hp
      · exact k14 j
    · intro j hj
      rw [if_neg (by omega)]
      exact k15 j (by omega)
    · intro j
      split
      · exact ho
      · exact k16 j
    · intro j
      split
      · exact Or.inl rfl
      · exact k17 j
    · intro j
      split
      · exact hf
      · exact k18 j
    · intro j hj
      rw [upd_r]
      split
      · rcases ha with ha | ha
        · exact Or.inl ha
        · exact Or.inr (by rw [zx_iff]; omega)
      · exact k19 j hj
  have kL : zLT (z_up (z_up (z_up (z_up (z_up (z_up (z_up (z_up (z_up (z_up (z_up S 30 (T 13 45).toNatClampNeg a) 31 (T 13 45).toNatClampNeg b) 32 (T 13 45).toNatClampNeg p) 33 (T 13 45).toNatClampNeg c) 5 0 ((T 13 45) + 1)) 34 (T 13 45).toNatClampNeg e) 35 (T 13 45).toNatClampNeg l) 36 (T 13 45).toNatClampNeg d) 37 (T 13 45).toNatClampNeg f) 38 (T 13 45).toNatClampNeg g) 39 (T 13 45).toNatClampNeg o) (z_up (z_up (z_up (z_up (z_up (z_up (z_up (z_up (z_up (z_up (z_up (z_up (z_up (z_up (z_up (z_up T 109 (T 13 45).toNatClampNeg b) 110 (T 13 45).toNatClampNeg a) 111 (T 13 45).toNatClampNeg p) 112 (T 13 45).toNatClampNeg c) 113 (T 13 45).toNatClampNeg e) 114 (T 13 45).toNatClampNeg k) 115 (T 13 45).toNatClampNeg 0) 116 (T 13 45).toNatClampNeg 15) 117 (T 13 45).toNatClampNeg (-1)) 118 (T 13 45).toNatClampNeg 0) 119 (T 13 45).toNatClampNeg 0) 13 45 ((T 13 45) + 1)) 115 (T 13 45).toNatClampNeg d) 116 (T 13 45).toNatClampNeg g) 117 (T 13 45).toNatClampNeg f) 118 (T 13 45).toNatClampNeg o) := by
    unfold zLT
    simp only [zup2, zup1, u, Nat.reduceEqDiff, reduceIte, ite_true, ite_false]
    intro j hj e9
    obtain ⟨q1, q2⟩ := hLT j hj e9
    refine ⟨?_, by omega⟩
    split
    · rfl
    · exact q1
  have kC : zCas (z_up (z_up (z_up (z_up (z_up (z_up (z_up (z_up (z_up (z_up (z_up S 30 (T 13 45).toNatClampNeg a) 31 (T 13 45).toNatClampNeg b) 32 (T 13 45).toNatClampNeg p) 33 (T 13 45).toNatClampNeg c) 5 0 ((T 13 45) + 1)) 34 (T 13 45).toNatClampNeg e) 35 (T 13 45).toNatClampNeg l) 36 (T 13 45).toNatClampNeg d) 37 (T 13 45).toNatClampNeg f) 38 (T 13 45).toNatClampNeg g) 39 (T 13 45).toNatClampNeg o) (z_up (z_up (z_up (z_up (z_up (z_up (z_up (z_up (z_up (z_up (z_up (z_up (z_up (z_up (z_up (z_up T 109 (T 13 45).toNatClampNeg b) 110 (T 13 45).toNatClampNeg a) 111 (T 13 45).toNatClampNeg p) 112 (T 13 45).toNatClampNeg c) 113 (T 13 45).toNatClampNeg e) 114 (T 13 45).toNatClampNeg k) 115 (T 13 45).toNatClampNeg 0) 116 (T 13 45).toNatClampNeg 15) 117 (T 13 45).toNatClampNeg (-1)) 118 (T 13 45).toNatClampNeg 0) 119 (T 13 45).toNatClampNeg 0) 13 45 ((T 13 45) + 1)) 115 (T 13 45).toNatClampNeg d) 116 (T 13 45).toNatClampNeg g) 117 (T 13 45).toNatClampNeg f) 118 (T 13 45).toNatClampNeg o) := by
    unfold zCas at hC ⊢
    obtain ⟨h0, h1, h2, h3, h4, h5, h6, h7, h8, h9, h10, h11, h12, h13⟩ := hC
    simp only [zup2, zup1, h0, h1, h2, h3, h4, h5, h6, Nat.reduceEqDiff, reduceIte, true_and, and_true, ite_true, ite_false]
    refine ⟨h7, h8, ?_, h10, h11, h12, h13⟩
    intro j hj
    obtain ⟨q1, q2⟩ := h9 j hj
    exact ⟨q1, by omega⟩
  refine zQ_R ⟨(zSeal_kc rfl hpS (zSeal_km rfl hpT (zQ_Seal hQ))), (zKey_kc rfl hpS (zKey_km rfl hpT (zQ_Key hQ))), (zEng_kc rfl hpS (zEng_km rfl hpT (zQ_Eng hQ))), (zRul_kc rfl hpS (zRul_km rfl hpT (zQ_Rul hQ))), (zPpl_kc rfl hpS (zPpl_km rfl hpT (zQ_Ppl hQ))), kT, (zLea_kc rfl hpS (zLea_km rfl hpT (zQ_Lea hQ))), kL, (zSto_kc rfl hpS (zSto_km rfl hpT (zQ_Sto hQ))), (zFar_kc rfl hpS (zFar_km rfl hpT (zQ_Far hQ))), (zLog_kc rfl hpS (zLog_km rfl hpT (zQ_Log hQ))), (zWra_kc rfl hpS (zWra_km rfl hpT (zQ_Wra hQ))), kC, (zCer_kc rfl hpS (zCer_km rfl hpT (zQ_Cer hQ))), (zSin_kc rfl hpS (zSin_km rfl hpT (zQ_Sin hQ)))⟩ ?_
  unfold zUse
  simp only [zup2, zup1, u, upd_r, Nat.reduceEqDiff, reduceIte, ite_true, ite_false]
  intro j hj e9
  by_cases ej : j = (T 13 45).toNatClampNeg
  · rw [if_pos ej]; exact hf0
  · rw [if_neg ej] at e9
    rw [if_neg ej, if_neg ej]; exact hU j (by omega) e9
theorem zrq21 {n : Nat} {S T : zS} (q1 : Int32) (q2 : Int32) (q3 : Int32) (q4 : Int32) (q5 : Int32) (q6 : Int32) (q7 : Int32) (q8 : Int32) (hn : n < 512) (h : zR n S T) : (((G262 q1 q2 q3 q4 q5 q6 q7 (zb (¬ (q8 = 0))) T) 13 0) = (F341_0_148 q1 q2 q3 q4 q5 q6 q7 (zb (¬ (q8 = 0))) S) ∧ ((F341_0_148 q1 q2 q3 q4 q5 q6 q7 (zb (¬ (q8 = 0))) S) = 0 → ((G341_0_148 q1 q2 q3 q4 q5 q6 q7 (zb (¬ (q8 = 0))) S) 148 0) = (F262 q1 q2 q3 q4 q5 q6 q7 (zb (¬ (q8 = 0))) T))) ∧ zR (n + 1) (G341_0_148 q1 q2 q3 q4 q5 q6 q7 (zb (¬ (q8 = 0))) S) (M21 q1 q2 q3 q4 q5 q6 q7 q8 T) := by
  have hQ := zR_Q h
  have hT := zQ_Tok hQ
  have hQt := zQ_thr hQ 0
  have hUt := zU_thr (zR_Use h) 0
  have hn40 := hT.2.2.2.2.2.2.2.2.2.2.1
  have h5 : S 5 0 = T 13 45 := hT.1
  have s31 : S 31 = T 109 := hT.2.2.1
  have s32 : S 32 = T 111 := hT.2.2.2.1
  have s33 : S 33 = T 112 := hT.2.2.2.2.1
  have s40 : S 40 = T 119 := hT.2.2.2.2.2.2.2.2.2.1
  have s6 : S 1 6 = T 13 2 := (zQ_Seal hQ).2.2.2.1
  have s11 : S 0 11 = T 13 1 := (zQ_Key hQ).2.2.2.2.2.2.1
  have t45 : (z_up T 13 0 0) 13 45 = T 13 45 := zupf rfl
  have t119 : (z_up T 13 0 0) 119 = T 119 := zupc rfl
  have e40 := zeq_top hn40 zlt_40
  show (((G262 q1 q2 q3 q4 q5 q6 q7 (zb (¬ (q8 = 0))) T) 13 0) = (F341_0_148 q1 q2 q3 q4 q5 q6 q7 (zb (¬ (q8 = 0))) S) ∧ ((F341_0_148 q1 q2 q3 q4 q5 q6 q7 (zb (¬ (q8 = 0))) S) = 0 → ((G341_0_148 q1 q2 q3 q4 q5 q6 q7 (zb (¬ (q8 = 0))) S) 148 0) = (F262 q1 q2 q3 q4 q5 q6 q7 (zb (¬ (q8 = 0))) T))) ∧ zR (n + 1) (G341_0_148 q1 q2 q3 q4 q5 q6 q7 (zb (¬ (q8 = 0))) S) (G262 q1 q2 q3 q4 q5 q6 q7 (zb (¬ (q8 = 0))) T)
  by_cases hC : ((((¬ (q2 < 0)) ∧ (¬ (2 < q2))) ∧ ((¬ (q3 < 0)) ∧ (¬ (255 < q3))))) ∧ ((((¬ (q4 < 1)) ∧ (¬ (100 < q4))) ∧ ((¬ (q5 < q4)) ∧ (¬ (200 < q5))))) ∧ ((if (q6 = (-1)) then ((¬ (q7 < 1)) ∧ (¬ (15 < q7))) else (((¬ (q6 < 1)) ∧ (¬ (20 < q6))) ∧ ((¬ (q7 < 1)) ∧ (¬ (15 < q7))))))
  rotate_left
  · have hC2 : ¬ (((((¬ (q2 < 0)) ∧ (¬ (2 < q2))) ∧ ((¬ (q3 < 0)) ∧ (¬ (255 < q3))))) ∧ ((((¬ (q4 < 1)) ∧ (¬ (100 < q4))) ∧ ((¬ (q5 < q4)) ∧ (¬ (200 < q5))))) ∧ ((q6 = -1 ∧ ((¬ (q7 < 1)) ∧ (¬ (15 < q7)))) ∨ ((¬ q6 = -1) ∧ (((¬ (q6 < 1)) ∧ (¬ (20 < q6))) ∧ ((¬ (q7 < 1)) ∧ (¬ (15 < q7))))))) := by
      rintro ⟨w1, w2, w3⟩
      apply hC
      refine ⟨w1, w2, ?_⟩
      rcases w3 with ⟨w3, w4⟩ | ⟨w3, w4⟩
      · rw [if_pos w3]; exact w4
      · rw [if_neg w3]; exact w4
    have eF : F341_0_148 q1 q2 q3 q4 q5 q6 q7 (zb (¬ (q8 = 0))) S = 1 := by
      unfold F341_0_148
      refine (zb_01 _).resolve_left (fun e => hC ?_)
      rw [zb_0] at e
      exact ⟨Classical.byContradiction (fun w => e (Or.inl w)), Classical.byContradiction (fun w => e (Or.inr (Or.inl w))), Classical.byContradiction (fun w => e (Or.inr (Or.inr w)))⟩
    have hV : (zb (¬ (((¬ (q2 < 0)) ∧ (¬ (2 < q2))) ∧ (((¬ (q3 < 0)) ∧ (¬ (255 < q3))) ∧ (((¬ (q4 < 1)) ∧ (¬ (100 < q4))) ∧ (((¬ (q5 < q4)) ∧ (¬ (200 < q5))) ∧ (if (q6 = (-1)) then ((¬ (q7 < 1)) ∧ (¬ (15 < q7))) else (((¬ (q6 < 1)) ∧ (¬ (20 < q6))) ∧ ((¬ (q7 < 1)) ∧ (¬ (15 < q7))))))))))) = 1 := by
      refine (zb_01 _).resolve_left (fun e => hC ?_)
      rw [zb_0, Decidable.not_not] at e
      exact ⟨⟨e.1, e.2.1⟩, ⟨e.2.2.1, e.2.2.2.1⟩, e.2.2.2.2⟩
    have e1 : G262 q1 q2 q3 q4 q5 q6 q7 (zb (¬ (q8 = 0))) T = z_up T 13 0 1 := by unfold G262; rw [hV, if_neg (show ¬ ((1 : Int32) = 0) by decide)]
    have e2 : G341_0_148 q1 q2 q3 q4 q5 q6 q7 (zb (¬ (q8 = 0))) S = S := by
      unfold G341_0_148
      by_cases g1 : (((¬ (q2 < 0)) ∧ (¬ (2 < q2))) ∧ ((¬ (q3 < 0)) ∧ (¬ (255 < q3))))
      · rw [if_pos g1]
        by_cases g2 : (((¬ (q4 < 1)) ∧ (¬ (100 < q4))) ∧ ((¬ (q5 < q4)) ∧ (¬ (200 < q5))))
        · rw [if_pos g2, if_neg (fun w => hC ⟨g1, g2, w⟩)]
        · rw [if_neg g2]
      · rw [if_neg g1]
    rw [e1, e2, eF]
    exact ⟨⟨zup_s _ _ _ _, fun e => absurd e (by decide)⟩, zQ_R (zQ_thr (zQ_up hQ) 1) (zU_thr (zR_Use h) 1)⟩
  obtain ⟨a1, a2, a3⟩ := hC
  have eF : F341_0_148 q1 q2 q3 q4 q5 q6 q7 (zb (¬ (q8 = 0))) S = 0 := by
    unfold F341_0_148
    rw [zb_0]
    rintro (w | w | w)
    · exact w a1
    · exact w a2
    · exact w a3
  have hV : (zb (¬ (((¬ (q2 < 0)) ∧ (¬ (2 < q2))) ∧ (((¬ (q3 < 0)) ∧ (¬ (255 < q3))) ∧ (((¬ (q4 < 1)) ∧ (¬ (100 < q4))) ∧ (((¬ (q5 < q4)) ∧ (¬ (200 < q5))) ∧ (if (q6 = (-1)) then ((¬ (q7 < 1)) ∧ (¬ (15 < q7))) else (((¬ (q6 < 1)) ∧ (¬ (20 < q6))) ∧ ((¬ (q7 < 1)) ∧ (¬ (15 < q7))))))))))) = 0 := by
    rw [zb_0, Decidable.not_not]
    exact ⟨a1.1, a1.2, a2.1, a2.2, a3⟩
  have e2 : G341_0_148 q1 q2 q3 q4 q5 q6 q7 (zb (¬ (q8 = 0))) S = (z_up (if ((F199 q1 q3 S) = 0) then (z_up (z_up (z_up (z_up (z_up (z_up (G122 q1 q2 (if (q1 = (-1)) then ((-1) : Int32) else (S 32 q1.toNatClampNeg)) q3 S) 34 (S 5 0).toNatClampNeg (((G122 q1 q2 (if (q1 = (-1)) then ((-1) : Int32) else (S 32 q1.toNatClampNeg)) q3 S) 0 11) + q4)) 35 (S 5 0).toNatClampNeg (((G122 q1 q2 (if (q1 = (-1)) then ((-1) : Int32) else (S 32 q1.toNatClampNeg)) q3 S) 0 11) + q5)) 36 (S 5 0).toNatClampNeg q4) 37 (S 5 0).toNatClampNeg q6) 38 (S 5 0).toNatClampNeg q7) 39 (S 5 0).toNatClampNeg (zb (¬ (q8 = 0)))) else S) 148 0 (if ((F199 q1 q3 S) = 0) then ((S 5 0) : Int32) else (F199 q1 q3 S))) := by unfold G341_0_148; rw [if_pos a1, if_pos a2, if_pos a3]
  have eG : G262 q1 q2 q3 q4 q5 q6 q7 (zb (¬ (q8 = 0))) T = (if ((T 13 2) = 0) then (z_up T 13 0 0) else (if ((q1 = (-1)) ∨ ((((¬ (q1 < 0)) ∧ (¬ ((((z_up T 13 0 0) 13 45) - 1) < q1))) ∧ (((z_up T 13 0 0) 119 q1.toNatClampNeg) = 0)) ∧ (¬ ((T 109 q1.toNatClampNeg) = 1)))) then (if ((q1 = (-1)) ∨ (((q1 = (-1)) ∨ ((((¬ (q1 < 0)) ∧ (¬ ((((z_up T 13 0 0) 13 45) - 1) < q1))) ∧ (((z_up T 13 0 0) 119 q1.toNatClampNeg) = 0)) ∧ (¬ ((T 109 q1.toNatClampNeg) = 1)))) ∧ ((q3 &&& ((T 112 q1.toNatClampNeg) ^^^ (-1))) = 0))) then (if ((T 13 45) = 40) then (z_up T 13 0 0) else (z_up (z_up (z_up (z_up (G260 q1 q2 (if (q1 = (-1)) then ((-1) : Int32) else (T 111 q1.toNatClampNeg)) q3 ((T 13 1) + q4) (if (q2 = 2) then (1000000000 : Int32) else ((T 13 1) + q5)) (z_up T 13 0 0)) 115 ((((z_up T 13 0 0) 13 45) + 1) - 1).toNatClampNeg q4) 116 ((((z_up T 13 0 0) 13 45) + 1) - 1).toNatClampNeg q7) 117 ((((z_up T 13 0 0) 13 45) + 1) - 1).toNatClampNeg q6) 118 ((((z_up T 13 0 0) 13 45) + 1) - 1).toNatClampNeg (zb (¬ (q8 = 0))))) else (z_up T 13 0 0)) else (z_up T 13 0 0))) := by unfold G262; rw [hV, if_pos rfl]
  have eH : F262 q1 q2 q3 q4 q5 q6 q7 (zb (¬ (q8 = 0))) T = (if ((T 13 2) = 0) then ((if ((T 13 2) = 0) then ((-2) : Int32) else (if ((q1 = (-1)) ∨ ((((¬ (q1 < 0)) ∧ (¬ ((((z_up T 13 0 0) 13 45) - 1) < q1))) ∧ (((z_up T 13 0 0) 119 q1.toNatClampNeg) = 0)) ∧ (¬ ((T 109 q1.toNatClampNeg) = 1)))) then ((if ((q1 = (-1)) ∨ (((q1 = (-1)) ∨ ((((¬ (q1 < 0)) ∧ (¬ ((((z_up T 13 0 0) 13 45) - 1) < q1))) ∧ (((z_up T 13 0 0) 119 q1.toNatClampNeg) = 0)) ∧ (¬ ((T 109 q1.toNatClampNeg) = 1)))) ∧ ((q3 &&& ((T 112 q1.toNatClampNeg) ^^^ (-1))) = 0))) then ((-11) : Int32) else (-6)) : Int32) else (-4))) : Int32) else (if ((q1 = (-1)) ∨ ((((¬ (q1 < 0)) ∧ (¬ ((((z_up T 13 0 0) 13 45) - 1) < q1))) ∧ (((z_up T 13 0 0) 119 q1.toNatClampNeg) = 0)) ∧ (¬ ((T 109 q1.toNatClampNeg) = 1)))) then ((if ((q1 = (-1)) ∨ (((q1 = (-1)) ∨ ((((¬ (q1 < 0)) ∧ (¬ ((((z_up T 13 0 0) 13 45) - 1) < q1))) ∧ (((z_up T 13 0 0) 119 q1.toNatClampNeg) = 0)) ∧ (¬ ((T 109 q1.toNatClampNeg) = 1)))) ∧ ((q3 &&& ((T 112 q1.toNatClampNeg) ^^^ (-1))) = 0))) then ((if ((T 13 45) = 40) then ((if ((T 13 2) = 0) then ((-2) : Int32) else (if ((q1 = (-1)) ∨ ((((¬ (q1 < 0)) ∧ (¬ ((((z_up T 13 0 0) 13 45) - 1) < q1))) ∧ (((z_up T 13 0 0) 119 q1.toNatClampNeg) = 0)) ∧ (¬ ((T 109 q1.toNatClampNeg) = 1)))) then ((if ((q1 = (-1)) ∨ (((q1 = (-1)) ∨ ((((¬ (q1 < 0)) ∧ (¬ ((((z_up T 13 0 0) 13 45) - 1) < q1))) ∧ (((z_up T 13 0 0) 119 q1.toNatClampNeg) = 0)) ∧ (¬ ((T 109 q1.toNatClampNeg) = 1)))) ∧ ((q3 &&& ((T 112 q1.toNatClampNeg) ^^^ (-1))) = 0))) then ((-11) : Int32) else (-6)) : Int32) else (-4))) : Int32) else ((((z_up T 13 0 0) 13 45) + 1) - 1)) : Int32) else (if ((T 13 2) = 0) then ((-2) : Int32) else (if ((q1 = (-1)) ∨ ((((¬ (q1 < 0)) ∧ (¬ ((((z_up T 13 0 0) 13 45) - 1) < q1))) ∧ (((z_up T 13 0 0) 119 q1.toNatClampNeg) = 0)) ∧ (¬ ((T 109 q1.toNatClampNeg) = 1)))) then ((if ((q1 = (-1)) ∨ (((q1 = (-1)) ∨ ((((¬ (q1 < 0)) ∧ (¬ ((((z_up T 13 0 0) 13 45) - 1) < q1))) ∧ (((z_up T 13 0 0) 119 q1.toNatClampNeg) = 0)) ∧ (¬ ((T 109 q1.toNatClampNeg) = 1)))) ∧ ((q3 &&& ((T 112 q1.toNatClampNeg) ^^^ (-1))) = 0))) then ((-11) : Int32) else (-6)) : Int32) else (-4)))) : Int32) else (if ((T 13 2) = 0) then ((-2) : Int32) else (if ((q1 = (-1)) ∨ ((((¬ (q1 < 0)) ∧ (¬ ((((z_up T 13 0 0) 13 45) - 1) < q1))) ∧ (((z_up T 13 0 0) 119 q1.toNatClampNeg) = 0)) ∧ (¬ ((T 109 q1.toNatClampNeg) = 1)))) then ((if ((q1 = (-1)) ∨ (((q1 = (-1)) ∨ ((((¬ (q1 < 0)) ∧ (¬ ((((z_up T 13 0 0) 13 45) - 1) < q1))) ∧ (((z_up T 13 0 0) 119 q1.toNatClampNeg) = 0)) ∧ (¬ ((T 109 q1.toNatClampNeg) = 1)))) ∧ ((q3 &&& ((T 112 q1.toNatClampNeg) ^^^ (-1))) = 0))) then ((-11) : Int32) else (-6)) : Int32) else (-4))))) := by unfold F262; rw [hV, if_pos rfl]
  simp only [t45, t119, zin hn40] at eG eH
  have e199 : F199 q1 q3 S = (if ((T 13 2) = 0) then ((-2) : Int32) else (if (q1 = (-1)) then ((if (¬ ((T 13 45) < 40)) then ((-11) : Int32) else 0) : Int32) else (if ((¬ (q1 < 0)) ∧ (¬ ((T 13 45) ≤ q1))) then ((if ((T 119 q1.toNatClampNeg) = 0) then ((if ((T 109 q1.toNatClampNeg) = 1) then ((-4) : Int32) else (if ((q3 &&& ((T 112 q1.toNatClampNeg) ^^^ (-1))) = 0) then ((if (¬ ((T 13 45) < 40)) then ((-11) : Int32) else 0) : Int32) else (-6))) : Int32) else (-4)) : Int32) else (-4)))) := by unfold F199; rw [s6, h5, s40, s31, s33]
  have fin : ∀ v : Int32, ¬ v = 0 → F199 q1 q3 S = v → F262 q1 q2 q3 q4 q5 q6 q7 (zb (¬ (q8 = 0))) T = v → G262 q1 q2 q3 q4 q5 q6 q7 (zb (¬ (q8 = 0))) T = z_up T 13 0 0 → ((((G262 q1 q2 q3 q4 q5 q6 q7 (zb (¬ (q8 = 0))) T) 13 0) = (F341_0_148 q1 q2 q3 q4 q5 q6 q7 (zb (¬ (q8 = 0))) S) ∧ ((F341_0_148 q1 q2 q3 q4 q5 q6 q7 (zb (¬ (q8 = 0))) S) = 0 → ((G341_0_148 q1 q2 q3 q4 q5 q6 q7 (zb (¬ (q8 = 0))) S) 148 0) = (F262 q1 q2 q3 q4 q5 q6 q7 (zb (¬ (q8 = 0))) T))) ∧ zR (n + 1) (G341_0_148 q1 q2 q3 q4 q5 q6 q7 (zb (¬ (q8 = 0))) S) (G262 q1 q2 q3 q4 q5 q6 q7 (zb (¬ (q8 = 0))) T)) := by
    intro v hv e5 e6 e7
    rw [e7, e2, e6, eF, e5, if_neg hv, if_neg hv]
    exact ⟨⟨zup_s _ _ _ _, fun _ => zup_s _ _ _ _⟩, zQ_R (zQ_out (zQ_up hQt) _) (zU_out hUt _)⟩
  by_cases c0 : T 13 2 = 0
  · exact fin (-2) (by decide) (by rw [e199, if_pos c0]) (by rw [eH]; simp only [if_pos c0]) (by rw [eG]; simp only [if_pos c0])
  have yes : T 13 45 < 40 → F199 q1 q3 S = 0 → ((q1 = (-1)) ∨ ((((¬ (q1 < 0)) ∧ (¬ ((T 13 45) ≤ q1))) ∧ ((T 119 q1.toNatClampNeg) = 0)) ∧ (¬ ((T 109 q1.toNatClampNeg) = 1)))) → ((q1 = (-1)) ∨ (((q1 = (-1)) ∨ ((((¬ (q1 < 0)) ∧ (¬ ((T 13 45) ≤ q1))) ∧ ((T 119 q1.toNatClampNeg) = 0)) ∧ (¬ ((T 109 q1.toNatClampNeg) = 1)))) ∧ ((q3 &&& ((T 112 q1.toNatClampNeg) ^^^ (-1))) = 0))) → (q1 = -1 ∨ (0 ≤ q1.toInt ∧ q1.toInt < (T 13 45).toInt)) → ((((G262 q1 q2 q3 q4 q5 q6 q7 (zb (¬ (q8 = 0))) T) 13 0) = (F341_0_148 q1 q2 q3 q4 q5 q6 q7 (zb (¬ (q8 = 0))) S) ∧ ((F341_0_148 q1 q2 q3 q4 q5 q6 q7 (zb (¬ (q8 = 0))) S) = 0 → ((G341_0_148 q1 q2 q3 q4 q5 q6 q7 (zb (¬ (q8 = 0))) S) 148 0) = (F262 q1 q2 q3 q4 q5 q6 q7 (zb (¬ (q8 = 0))) T))) ∧ zR (n + 1) (G341_0_148 q1 q2 q3 q4 q5 q6 q7 (zb (¬ (q8 = 0))) S) (G262 q1 q2 q3 q4 q5 q6 q7 (zb (¬ (q8 = 0))) T)) := by
    intro hlt e5 hP hM hpar
    have nf : ¬ T 13 45 = 40 := by rw [e40]; exact fun w => w hlt
    have eG1 := eG
    simp only [if_neg c0, if_pos hP, if_pos hM, if_neg nf, Int32.add_sub_cancel] at eG1
    have eH1 : F262 q1 q2 q3 q4 q5 q6 q7 (zb (¬ (q8 = 0))) T = T 13 45 := by rw [eH]; simp only [if_neg c0, if_pos hP, if_pos hM, if_neg nf, Int32.add_sub_cancel]
    have e2' := e2
    rw [e5, if_pos rfl, if_pos rfl] at e2'
    have hRt : zR n S (z_up T 13 0 0) := zQ_R hQt hUt
    have hnat := zk_nat hn40.1
    have hpe : (if (q1 = (-1)) then ((-1) : Int32) else (S 32 q1.toNatClampNeg)) = (if (q1 = (-1)) then ((-1) : Int32) else (T 111 q1.toNatClampNeg)) := by rw [s32]
    have hpr : -1 ≤ (if (q1 = (-1)) then ((-1) : Int32) else (T 111 q1.toNatClampNeg)).toInt ∧ (if (q1 = (-1)) then ((-1) : Int32) else (T 111 q1.toNatClampNeg)).toInt ≤ 7 := by
      split
      · decide
      · exact hT.2.2.2.2.2.2.2.2.2.2.2.2.2.2.1 _
    have hf : (-1 ≤ q6.toInt ∧ q6.toInt ≤ 20) ∧ ¬ q6 = 0 := by
      by_cases w : q6 = -1
      · rw [w]; exact ⟨by decide, by decide⟩
      · rw [if_neg w] at a3
        obtain ⟨⟨w1, w2⟩, -⟩ := a3
        rw [zk_lt, zk_1] at w1
        rw [zk_lt, zlt_20] at w2
        refine ⟨by omega, fun e9 => ?_⟩
        rw [e9, zlt_0] at w1; omega
    have hd : zn 100 q4 := by
      obtain ⟨⟨w1, w2⟩, -⟩ := a2
      rw [zk_lt, zk_1] at w1
      rw [zk_lt, zlt_100] at w2
      unfold zn; omega
    have key := zpush (n := n) hRt q1 q2 (if (q1 = (-1)) then ((-1) : Int32) else (T 111 q1.toNatClampNeg)) q3 ((T 13 1) + q4) ((T 13 1) + q5) (if (q2 = 2) then (1000000000 : Int32) else ((T 13 1) + q5)) q4 q6 q7 (zb (¬ (q8 = 0))) (by rw [t45]; exact hlt) (fun w => (if_neg w).symm) (fun w => if_pos w) hd (by rw [t45]; exact hpar) hpr (zb_01 _) hf.1 hf.2
    rw [t45] at key
    have eS : (z_up (z_up (z_up (z_up (z_up (z_up (G122 q1 q2 (if (q1 = (-1)) then ((-1) : Int32) else (S 32 q1.toNatClampNeg)) q3 S) 34 (S 5 0).toNatClampNeg (((G122 q1 q2 (if (q1 = (-1)) then ((-1) : Int32) else (S 32 q1.toNatClampNeg)) q3 S) 0 11) + q4)) 35 (S 5 0).toNatClampNeg (((G122 q1 q2 (if (q1 = (-1)) then ((-1) : Int32) else (S 32 q1.toNatClampNeg)) q3 S) 0 11) + q5)) 36 (S 5 0).toNatClampNeg q4) 37 (S 5 0).toNatClampNeg q6) 38 (S 5 0).toNatClampNeg q7) 39 (S 5 0).toNatClampNeg (zb (¬ (q8 = 0)))) = (z_up (z_up (z_up (z_up (z_up (z_up (z_up (z_up (z_up (z_up (z_up S 30 (T 13 45).toNatClampNeg q1) 31 (T 13 45).toNatClampNeg q2) 32 (T 13 45).toNatClampNeg (if (q1 = (-1)) then ((-1) : Int32) else (T 111 q1.toNatClampNeg))) 33 (T 13 45).toNatClampNeg q3) 5 0 ((T 13 45) + 1)) 34 (T 13 45).toNatClampNeg ((T 13 1) + q4)) 35 (T 13 45).toNatClampNeg ((T 13 1) + q5)) 36 (T 13 45).toNatClampNeg q4) 37 (T 13 45).toNatClampNeg q6) 38 (T 13 45).toNatClampNeg q7) 39 (T 13 45).toNatClampNeg (zb (¬ (q8 = 0)))) := by
      unfold G122
      have w11 : (z_up (z_up (z_up (z_up (z_up S 30 (S 5 0).toNatClampNeg q1) 31 (S 5 0).toNatClampNeg q2) 32 (S 5 0).toNatClampNeg (if (q1 = (-1)) then ((-1) : Int32) else (S 32 q1.toNatClampNeg))) 33 (S 5 0).toNatClampNeg q3) 5 0 ((S 5 0) + 1)) 0 11 = T 13 1 := by simp only [zup2, s11, Nat.reduceEqDiff, reduceIte, ite_false]
      rw [w11, hpe, h5]
    rw [eS] at e2'
    unfold G260 at eG1
    simp only [t45] at eG1
    rw [eG1, e2', eH1, eF]
    refine ⟨⟨?_, fun _ => (zup_s _ _ _ _).trans h5⟩, ?_⟩
    · simp only [zup2, Nat.reduceEqDiff, reduceIte, ite_true, ite_false]
    · exact zQ_R (zQ_out (zQ_up (zR_Q key)) _) (zU_out (zR_Use key) _)
  by_cases c1 : q1 = -1
  · have hP : (q1 = (-1)) ∨ ((((¬ (q1 < 0)) ∧ (¬ ((T 13 45) ≤ q1))) ∧ ((T 119 q1.toNatClampNeg) = 0)) ∧ (¬ ((T 109 q1.toNatClampNeg) = 1))) := Or.inl c1
    have hM : (q1 = (-1)) ∨ (((q1 = (-1)) ∨ ((((¬ (q1 < 0)) ∧ (¬ ((T 13 45) ≤ q1))) ∧ ((T 119 q1.toNatClampNeg) = 0)) ∧ (¬ ((T 109 q1.toNatClampNeg) = 1)))) ∧ ((q3 &&& ((T 112 q1.toNatClampNeg) ^^^ (-1))) = 0)) := Or.inl c1
    by_cases c2 : T 13 45 < 40
    · exact yes c2 (by rw [e199, if_neg c0, if_pos c1, if_neg (fun w => w c2)]) hP hM (Or.inl c1)
    · have nf : T 13 45 = 40 := by rw [e40]; exact c2
      exact fin (-11) (by decide) (by rw [e199, if_neg c0, if_pos c1, if_pos c2]) (by rw [eH]; simp only [if_neg c0, if_pos hP, if_pos hM, if_pos nf]) (by rw [eG]; simp only [if_neg c0, if_pos hP, if_pos hM, if_pos nf])
  by_cases c3 : ((¬ (q1 < 0)) ∧ (¬ ((T 13 45) ≤ q1)))
  rotate_left
  · have hP : ¬ ((q1 = (-1)) ∨ ((((¬ (q1 < 0)) ∧ (¬ ((T 13 45) ≤ q1))) ∧ ((T 119 q1.toNatClampNeg) = 0)) ∧ (¬ ((T 109 q1.toNatClampNeg) = 1)))) := by rintro (w | w); exact c1 w; exact c3 w.1.1
    exact fin (-4) (by decide) (by rw [e199, if_neg c0, if_neg c1, if_neg c3]) (by rw [eH]; simp only [if_neg c0, if_neg hP]) (by rw [eG]; simp only [if_neg c0, if_neg hP])
  by_cases c4 : T 119 q1.toNatClampNeg = 0
  rotate_left
  · have hP : ¬ ((q1 = (-1)) ∨ ((((¬ (q1 < 0)) ∧ (¬ ((T 13 45) ≤ q1))) ∧ ((T 119 q1.toNatClampNeg) = 0)) ∧ (¬ ((T 109 q1.toNatClampNeg) = 1)))) := by rintro (w | w); exact c1 w; exact c4 w.1.2
    exact fin (-4) (by decide) (by rw [e199, if_neg c0, if_neg c1, if_pos c3, if_neg c4]) (by rw [eH]; simp only [if_neg c0, if_neg hP]) (by rw [eG]; simp only [if_neg c0, if_neg hP])
  by_cases c5 : T 109 q1.toNatClampNeg = 1
  · have hP : ¬ ((q1 = (-1)) ∨ ((((¬ (q1 < 0)) ∧ (¬ ((T 13 45) ≤ q1))) ∧ ((T 119 q1.toNatClampNeg) = 0)) ∧ (¬ ((T 109 q1.toNatClampNeg) = 1)))) := by rintro (w | w); exact c1 w; exact w.2 c5
    exact fin (-4) (by decide) (by rw [e199, if_neg c0, if_neg c1, if_pos c3, if_pos c4, if_pos c5]) (by rw [eH]; simp only [if_neg c0, if_neg hP]) (by rw [eG]; simp only [if_neg c0, if_neg hP])
  have hP : (q1 = (-1)) ∨ ((((¬ (q1 < 0)) ∧ (¬ ((T 13 45) ≤ q1))) ∧ ((T 119 q1.toNatClampNeg) = 0)) ∧ (¬ ((T 109 q1.toNatClampNeg) = 1))) := Or.inr ⟨⟨c3, c4⟩, c5⟩
  by_cases c6 : (q3 &&& ((T 112 q1.toNatClampNeg) ^^^ (-1))) = 0
  rotate_left
  · have hM : ¬ ((q1 = (-1)) ∨ (((q1 = (-1)) ∨ ((((¬ (q1 < 0)) ∧ (¬ ((T 13 45) ≤ q1))) ∧ ((T 119 q1.toNatClampNeg) = 0)) ∧ (¬ ((T 109 q1.toNatClampNeg) = 1)))) ∧ ((q3 &&& ((T 112 q1.toNatClampNeg) ^^^ (-1))) = 0))) := by rintro (w | w); exact c1 w; exact c6 w.2
    exact fin (-6) (by decide) (by rw [e199, if_neg c0, if_neg c1, if_pos c3, if_pos c4, if_neg c5, if_neg c6]) (by rw [eH]; simp only [if_neg c0, if_pos hP, if_neg hM]) (by rw [eG]; simp only [if_neg c0, if_pos hP, if_neg hM])
  have hM : (q1 = (-1)) ∨ (((q1 = (-1)) ∨ ((((¬ (q1 < 0)) ∧ (¬ ((T 13 45) ≤ q1))) ∧ ((T 119 q1.toNatClampNeg) = 0)) ∧ (¬ ((T 109 q1.toNatClampNeg) = 1)))) ∧ ((q3 &&& ((T 112 q1.toNatClampNeg) ^^^ (-1))) = 0)) := Or.inr ⟨hP, c6⟩
  by_cases c2 : T 13 45 < 40
  · have g2 := zin2 hn40 c3
    exact yes c2 (by rw [e199, if_neg c0, if_neg c1, if_pos c3, if_pos c4, if_neg c5, if_pos c6, if_neg (fun w => w c2)]) hP hM (Or.inr ⟨g2.1, g2.2.1⟩)
  · have nf : T 13 45 = 40 := by rw [e40]; exact c2
    exact fin (-11) (by decide) (by rw [e199, if_neg c0, if_neg c1, if_pos c3, if_pos c4, if_neg c5, if_pos c6, if_pos c2]) (by rw [eH]; simp only [if_neg c0, if_pos hP, if_pos hM, if_pos nf]) (by rw [eG]; simp only [if_neg c0, if_pos hP, if_pos hM, if_pos nf])
theorem zyr21 {n : Nat} {S T : zS} (q1 : Int32) (q2 : Int32) (q3 : Int32) (q4 : Int32) (q5 : Int32) (q6 : Int32) (q7 : Int32) (q8 : Int32) (hn : n < 512) (h : zR n S T) : ((G262 q1 q2 q3 q4 q5 q6 q7 (zb (¬ (q8 = 0))) T) 13 0) = (F341_0_148 q1 q2 q3 q4 q5 q6 q7 (zb (¬ (q8 = 0))) S) ∧ ((F341_0_148 q1 q2 q3 q4 q5 q6 q7 (zb (¬ (q8 = 0))) S) = 0 → ((G341_0_148 q1 q2 q3 q4 q5 q6 q7 (zb (¬ (q8 = 0))) S) 148 0) = (F262 q1 q2 q3 q4 q5 q6 q7 (zb (¬ (q8 = 0))) T)) := (zrq21 q1 q2 q3 q4 q5 q6 q7 q8 hn h).1
theorem zyt21_Tok {n : Nat} {S T : zS} (q1 : Int32) (q2 : Int32) (q3 : Int32) (q4 : Int32) (q5 : Int32) (q6 : Int32) (q7 : Int32) (q8 : Int32) (hn : n < 512) (h : zR n S T) : zTok (G341_0_148 q1 q2 q3 q4 q5 q6 q7 (zb (¬ (q8 = 0))) S) (M21 q1 q2 q3 q4 q5 q6 q7 q8 T) := zR_Tok (zrq21 q1 q2 q3 q4 q5 q6 q7 q8 hn h).2
theorem zyt21_LT {n : Nat} {S T : zS} (q1 : Int32) (q2 : Int32) (q3 : Int32) (q4 : Int32) (q5 : Int32) (q6 : Int32) (q7 : Int32) (q8 : Int32) (hn : n < 512) (h : zR n S T) : zLT (G341_0_148 q1 q2 q3 q4 q5 q6 q7 (zb (¬ (q8 = 0))) S) (M21 q1 q2 q3 q4 q5 q6 q7 q8 T) := zR_LT (zrq21 q1 q2 q3 q4 q5 q6 q7 q8 hn h).2
theorem zyt21_Use {n : Nat} {S T : zS} (q1 : Int32) (q2 : Int32) (q3 : Int32) (q4 : Int32) (q5 : Int32) (q6 : Int32) (q7 : Int32) (q8 : Int32) (hn : n < 512) (h : zR n S T) : zUse (G341_0_148 q1 q2 q3 q4 q5 q6 q7 (zb (¬ (q8 = 0))) S) (M21 q1 q2 q3 q4 q5 q6 q7 q8 T) := zR_Use (zrq21 q1 q2 q3 q4 q5 q6 q7 q8 hn h).2
theorem zyt21_Cas {n : Nat} {S T : zS} (q1 : Int32) (q2 : Int32) (q3 : Int32) (q4 : Int32) (q5 : Int32) (q6 : Int32) (q7 : Int32) (q8 : Int32) (hn : n < 512) (h : zR n S T) : zCas (G341_0_148 q1 q2 q3 q4 q5 q6 q7 (zb (¬ (q8 = 0))) S) (M21 q1 q2 q3 q4 q5 q6 q7 q8 T) := zR_Cas (zrq21 q1 q2 q3 q4 q5 q6 q7 q8 hn h).2
theorem zsm8 : ∀ k, k < 8 → ((Int32.ofNat k &&& 31).toBitVec.smod 32).toNat = k := by decide +kernel
theorem zshl8 : ∀ k, k < 8 → ∀ i, i < 32 → (zshl 1 (Int32.ofNat k)).toBitVec.getLsbD i = decide (i = k) := by decide +kernel
theorem zclr {x p : Int32} (hp : 0 ≤ p.toInt ∧ p.toInt ≤ 7) (h : ¬ ((zshr x p) &&& 1) = 1) : x &&& ((zshl 1 p) ^^^ (-1)) = x := by
  have hn := zk_nat hp.1
  have hk : p.toNatClampNeg < 8 := by omega
  have hpe := zk_of hp.1
  generalize p.toNatClampNeg = k at *
  subst hpe
  have h0 := (zand1 (zshr x (Int32.ofNat k))).resolve_right h
  have h1 : ((zshr x (Int32.ofNat k)) &&& 1).toBitVec.getLsbD 0 = (0 : Int32).toBitVec.getLsbD 0 := by rw [h0]
  have k1 : (1 : Int32).toBitVec.getLsbD 0 = true := by decide
  have m1 : ∀ i, i < 32 → (-1 : Int32).toBitVec.getLsbD i = true := by decide
  rw [Int32.toBitVec_and, BitVec.getLsbD_and, k1, zlsb0 0 (by decide), Bool.and_true] at h1
  unfold zshr at h1
  rw [Int32.toBitVec_shiftRight, BitVec.getLsbD_sshiftRight', zsm8 k hk] at h1
  have h2 : x.toBitVec.getLsbD k = false := by
    have e : k < 32 := by omega
    simpa [e] using h1
  apply zbe
  intro i hi
  rw [Int32.toBitVec_and, Int32.toBitVec_xor, BitVec.getLsbD_and, BitVec.getLsbD_xor, zshl8 k hk i hi, m1 i hi]
  by_cases e : i = k
  · subst e; rw [h2]; rfl
  · simp [e]
theorem zmg1 {S T : zS} (a b x : Int32) (h5 : S 5 0 = T 13 45) (h32 : S 32 = T 111) (hb : -1 ≤ b.toInt ∧ b.toInt ≤ 7) (hr : ∀ j, -1 ≤ (T 111 j).toInt ∧ (T 111 j).toInt ≤ 7) : (K126_2_S a b 0 S) 32 = (K249_58_S a b x 0 T) 111 ∧ ∀ j, -1 ≤ ((K249_58_S a b x 0 T) 111 j).toInt ∧ ((K249_58_S a b x 0 T) 111 j).toInt ≤ 7 := by
  unfold K126_2_S K126_2 K249_58_S K249_58
  rw [h5]
  refine zfold_rel (I := fun (c d : zS) => c 32 = d 111 ∧ ∀ j, -1 ≤ (d 111 j).toInt ∧ (d 111 j).toInt ≤ 7) ⟨h32, hr⟩ (fun j c d hj hI => ?_)
  obtain ⟨e, er⟩ := hI
  unfold k126_2 k249_58
  rw [e]
  by_cases c0 : d 111 (0 + j) = a
  · rw [if_pos c0, if_pos c0]
    refine ⟨by rw [zup1, if_pos rfl, zup1, if_pos rfl, e], fun i => ?_⟩
    rw [zup2, if_pos rfl]
    split
    · exact hb
    · exact er i
  · rw [if_neg c0, if_neg c0, zup_id d 111 _ _ rfl]
    exact ⟨e, er⟩
theorem zmg2 {S T : zS} (a b x : Int32) (u : Option zV) (ha : 0 ≤ a.toInt ∧ a.toInt ≤ 7) (h28 : S 28 = T 107) : (K75_2_S a b 0 S) 28 = (K249_82_S a b x u 0 T) 107 := by
  unfold K75_2_S K75_2 K249_82_S K249_82
  refine zfold_rel (I := fun (c : zS) (d : Option zV × zS) => c 28 = d.2 107) h28 (fun j c d hj hI => ?_)
  unfold k75_2 k249_82
  dsimp only
  have d10 : ((1 : Int32) = 0) = False := eq_false (by decide)
  have d10n : ((1 : Nat) = 0) = False := eq_false (by decide)
  simp only [d10, d10n, if_true, if_false]
  rw [hI]
  by_cases c0 : ((zshr (d.2 107 (0 + j)) a) &&& 1) = 1
  · rw [if_pos c0, if_pos c0]
    simp only [zup1, zup2, if_true, zupd2, hI]
  · rw [if_neg c0, if_neg c0, zclr ha c0, zup_id d.2 107 _ _ rfl, zup_id c 28 _ _ (congrFun hI _)]
    exact hI
theorem zmg3 {S T : zS} (a b : Int32) (h24 : S 24 = T 106) (hb : -1 ≤ b.toInt ∧ b.toInt ≤ 7) (hr : ∀ j, j < 18 → -1 ≤ (T 106 j).toInt ∧ (T 106 j).toInt ≤ 7) : K74_4_c3 a b 0 0 S = K249_23_c3 a b 0 0 T ∧ (K74_4_S a b 0 0 S) 24 = (K249_23_S a b 0 0 T) 106 ∧ ∀ j, j < 18 → -1 ≤ ((K249_23_S a b 0 0 T) 106 j).toInt ∧ ((K249_23_S a b 0 0 T) 106 j).toInt ≤ 7 := by
  unfold K74_4_c3 K74_4_S K74_4 K249_23_c3 K249_23_S K249_23
  refine zfold_rel (I := fun (c : Int32 × zS) (d : Int32 × zS) => c.1 = d.1 ∧ c.2 24 = d.2 106 ∧ ∀ j, j < 18 → -1 ≤ (d.2 106 j).toInt ∧ (d.2 106 j).toInt ≤ 7) ⟨rfl, h24, hr⟩ (fun j c d hj hI => ?_)
  obtain ⟨e1, e, er⟩ := hI
  unfold k74_4 k249_23
  dsimp only
  rw [e, e1, zadd_zb]
  refine ⟨rfl, ?_⟩
  by_cases c0 : d.2 106 (0 + j) = a
  · rw [if_pos c0, if_pos c0]
    refine ⟨by rw [zup1, if_pos rfl, zup1, if_pos rfl, e], fun i hi => ?_⟩
    rw [zup2, if_pos rfl]
    split
    · exact hb
    · exact er i hi
  · rw [if_neg c0, if_neg c0, zup_id d.2 106 _ _ rfl]
    exact ⟨e, er⟩
theorem zrq18 {n : Nat} {S T : zS} (q1 : Int32) (q2 : Int32) (hn : n < 512) (h : zR n S T) : (((G249 q1 q2 T) 13 0) = (F338_0_148 q1 q2 S) ∧ ((F338_0_148 q1 q2 S) = 0 → ((G338_0_148 q1 q2 S) 148 0) = (F249 q1 q2 T))) ∧ zR (n + 1) (G338_0_148 q1 q2 S) (M18 q1 q2 T) := by
  have hQ := zR_Q h
  have hQt := zQ_thr hQ 0
  have hT := zQ_Tok hQt
  have hP := zQ_Ppl hQt
  have e1q : (7 < q1) = (8 ≤ q1) := propext (by simp only [zk_lt, zk_le, zlt_m1, zlt_0, zlt_1, zlt_2, zlt_3, zlt_4, zlt_5, zlt_6, zlt_7, zlt_8, zlt_9, zlt_10, zlt_15, zlt_16, zlt_20, zlt_24, zlt_30, zlt_36, zlt_39, zlt_40, zlt_50, zlt_72, zlt_100, zlt_199, zlt_200, zlt_215, zlt_216, zlt_255, zlt_256, zlt_1000, zlt_9999, zlt_65535, zlt_1000000000]; omega)
  have e2q : (7 < q2) = (8 ≤ q2) := propext (by simp only [zk_lt, zk_le, zlt_m1, zlt_0, zlt_1, zlt_2, zlt_3, zlt_4, zlt_5, zlt_6, zlt_7, zlt_8, zlt_9, zlt_10, zlt_15, zlt_16, zlt_20, zlt_24, zlt_30, zlt_36, zlt_39, zlt_40, zlt_50, zlt_72, zlt_100, zlt_199, zlt_200, zlt_215, zlt_216, zlt_255, zlt_256, zlt_1000, zlt_9999, zlt_65535, zlt_1000000000]; omega)
  have eV : (if ((¬ (q1 < 0)) ∧ (¬ (7 < q1))) then ((if ((¬ (q2 < 0)) ∧ (¬ (7 < q2))) then ((if (q1 = q2) then (2 : Int32) else 0) : Int32) else 1) : Int32) else 1) = F338_0_148 q1 q2 S := by
    unfold F338_0_148
    simp only [e1q, e2q]
    by_cases g1 : (¬ (q1 < 0)) ∧ (¬ (8 ≤ q1))
    · by_cases g2 : (¬ (q2 < 0)) ∧ (¬ (8 ≤ q2))
      · by_cases g3 : q1 = q2
        · rw [if_pos g1, if_pos g2, if_pos g3, if_pos ⟨g1, g2⟩, if_neg (fun w => w g3)]
        · rw [if_pos g1, if_pos g2, if_neg g3, if_pos ⟨g1, g2⟩, if_pos g3]
      · rw [if_pos g1, if_neg g2, if_neg (fun w => g2 w.2)]
    · rw [if_neg g1, if_neg (fun w => g1 w.1)]
  unfold M18
  by_cases hA : (((¬ (q1 < 0)) ∧ (¬ (8 ≤ q1))) ∧ ((¬ (q2 < 0)) ∧ (¬ (8 ≤ q2))))
  rotate_left
  · have eF : F338_0_148 q1 q2 S = 1 := by unfold F338_0_148; rw [if_neg hA]
    have e1 : G249 q1 q2 T = z_up T 13 0 1 := by unfold G249; rw [eV, eF, if_neg (show ¬ ((1 : Int32) = 0) by decide)]
    have e2 : G338_0_148 q1 q2 S = S := by unfold G338_0_148; rw [if_neg hA]
    rw [e1, e2, eF]
    exact ⟨⟨zup_s _ _ _ _, fun e => absurd e (by decide)⟩, zQ_R (zQ_thr (zQ_up hQ) 1) (zU_thr (zR_Use h) 1)⟩
  by_cases hB : (¬ (q1 = q2))
  rotate_left
  · have eF : F338_0_148 q1 q2 S = 2 := by unfold F338_0_148; rw [if_pos hA, if_neg hB]
    have e1 : G249 q1 q2 T = z_up T 13 0 2 := by unfold G249; rw [eV, eF, if_neg (show ¬ ((2 : Int32) = 0) by decide)]
    have e2 : G338_0_148 q1 q2 S = S := by unfold G338_0_148; rw [if_pos hA, if_neg hB]
    rw [e1, e2, eF]
    exact ⟨⟨zup_s _ _ _ _, fun e => absurd e (by decide)⟩, zQ_R (zQ_thr (zQ_up hQ) 2) (zU_thr (zR_Use h) 2)⟩
  have eF : F338_0_148 q1 q2 S = 0 := by unfold F338_0_148; rw [if_pos hA, if_pos hB]
  have e1 : G249 q1 q2 T = (K249_82_S q1 q2 (K249_23_c3 q1 q2 0 0 (z_up T 13 0 0)) (none : Option zV) 0 (K249_58_S q1 q2 (K249_23_c3 q1 q2 0 0 (z_up T 13 0 0)) 0 (K249_23_S q1 q2 0 0 (z_up T 13 0 0)))) := by unfold G249; rw [eV, eF, if_pos rfl]
  have e4 : F249 q1 q2 T = (K249_23_c3 q1 q2 0 0 (z_up T 13 0 0)) := by unfold F249; rw [eV, eF, if_pos rfl]
  have e2 : G338_0_148 q1 q2 S = (z_up (K74_4_S q1 q2 0 0 (K75_2_S q1 q2 0 (K126_2_S q1 q2 0 S))) 148 0 (K74_4_c3 q1 q2 0 0 (K75_2_S q1 q2 0 (K126_2_S q1 q2 0 S)))) := by unfold G338_0_148; rw [if_pos hA, if_pos hB]
  have ha : 0 ≤ q1.toInt ∧ q1.toInt ≤ 7 := by have := hA.1; simp only [zk_lt, zk_le, zlt_m1, zlt_0, zlt_1, zlt_2, zlt_3, zlt_4, zlt_5, zlt_6, zlt_7, zlt_8, zlt_9, zlt_10, zlt_15, zlt_16, zlt_20, zlt_24, zlt_30, zlt_36, zlt_39, zlt_40, zlt_50, zlt_72, zlt_100, zlt_199, zlt_200, zlt_215, zlt_216, zlt_255, zlt_256, zlt_1000, zlt_9999, zlt_65535, zlt_1000000000] at this; omega
  have hb : -1 ≤ q2.toInt ∧ q2.toInt ≤ 7 := by have := hA.2; simp only [zk_lt, zk_le, zlt_m1, zlt_0, zlt_1, zlt_2, zlt_3, zlt_4, zlt_5, zlt_6, zlt_7, zlt_8, zlt_9, zlt_10, zlt_15, zlt_16, zlt_20, zlt_24, zlt_30, zlt_36, zlt_39, zlt_40, zlt_50, zlt_72, zlt_100, zlt_199, zlt_200, zlt_215, zlt_216, zlt_255, zlt_256, zlt_1000, zlt_9999, zlt_65535, zlt_1000000000] at this; omega
  rw [e1, e2, e4, eF]
  have s1 := p_K126_2_S q1 q2 0 S
  have s2 := p_K75_2_S q1 q2 0 (K126_2_S q1 q2 0 S)
  have s3 := p_K74_4_S q1 q2 0 0 (K75_2_S q1 q2 0 (K126_2_S q1 q2 0 S))
  have r1 := p_K249_23_S q1 q2 0 0 (z_up T 13 0 0)
  have r2 := p_K249_58_S q1 q2 (K249_23_c3 q1 q2 0 0 (z_up T 13 0 0)) 0 (K249_23_S q1 q2 0 0 (z_up T 13 0 0))
  have r3 := p_K249_82_S q1 q2 (K249_23_c3 q1 q2 0 0 (z_up T 13 0 0)) (none : Option zV) 0 (K249_58_S q1 q2 (K249_23_c3 q1 q2 0 0 (z_up T 13 0 0)) 0 (K249_23_S q1 q2 0 0 (z_up T 13 0 0)))
  have w2 := zmg1 q1 q2 (K249_23_c3 q1 q2 0 0 (z_up T 13 0 0)) (S := S) (T := K249_23_S q1 q2 0 0 (z_up T 13 0 0)) (hT.1.trans (r1.2 13 45 rfl rfl).symm) (hT.2.2.2.1.trans (r1.1 111 rfl).symm) hb (fun j => by rw [r1.1 111 rfl]; exact hT.2.2.2.2.2.2.2.2.2.2.2.2.2.2.1 j)
  have w3 := zmg2 q1 q2 (K249_23_c3 q1 q2 0 0 (z_up T 13 0 0)) (none : Option zV) ha (S := K126_2_S q1 q2 0 S) (T := K249_58_S q1 q2 (K249_23_c3 q1 q2 0 0 (z_up T 13 0 0)) 0 (K249_23_S q1 q2 0 0 (z_up T 13 0 0))) ((s1.1 28 rfl).trans (hP.2.2.2.2.1.trans ((r2.1 107 rfl).trans (r1.1 107 rfl)).symm))
  have w1 := zmg3 q1 q2 (S := K75_2_S q1 q2 0 (K126_2_S q1 q2 0 S)) (T := z_up T 13 0 0) (((s2.1 24 rfl).trans (s1.1 24 rfl)).trans hP.1) hb hP.2.2.2.2.2.2
  rw [w1.1]
  have hpS : zkp [24, 28, 32] [] S (K74_4_S q1 q2 0 0 (K75_2_S q1 q2 0 (K126_2_S q1 q2 0 S))) := zkp_tr (zkp_tr (zkp_tr zkp_S s1 rfl rfl) s2 rfl rfl) s3 rfl rfl
  have hpT : zkp [106, 107, 111] [] (z_up T 13 0 0) (K249_82_S q1 q2 (K249_23_c3 q1 q2 0 0 (z_up T 13 0 0)) (none : Option zV) 0 (K249_58_S q1 q2 (K249_23_c3 q1 q2 0 0 (z_up T 13 0 0)) 0 (K249_23_S q1 q2 0 0 (z_up T 13 0 0)))) := zkp_tr (zkp_tr (zkp_tr zkp_S r1 rfl rfl) r2 rfl rfl) r3 rfl rfl
  have f24 := w1.2.1
  have f24' := w1.2.2
  have f32 := w2.1
  have f32' := w2.2
  have f28 := w3
  have g28 := s3.1 28 rfl
  have g32 := (s3.1 32 rfl).trans (s2.1 32 rfl)
  have g106 := (r3.1 106 rfl).trans (r2.1 106 rfl)
  have g111 := r3.1 111 rfl
  generalize K74_4_S q1 q2 0 0 (K75_2_S q1 q2 0 (K126_2_S q1 q2 0 S)) = A at *
  generalize K249_82_S q1 q2 (K249_23_c3 q1 q2 0 0 (z_up T 13 0 0)) (none : Option zV) 0 (K249_58_S q1 q2 (K249_23_c3 q1 q2 0 0 (z_up T 13 0 0)) 0 (K249_23_S q1 q2 0 0 (z_up T 13 0 0))) = B at *
  have a32 : A 32 = B 111 := g32.trans (f32.trans g111.symm)
  have a28 : A 28 = B 107 := g28.trans f28
  have a24 : A 24 = B 106 := f24.trans g106.symm
  have b111 : ∀ j, -1 ≤ (B 111 j).toInt ∧ (B 111 j).toInt ≤ 7 := fun j => by rw [g111]; exact f32' j
  have b106 : ∀ j, j < 18 → -1 ≤ (B 106 j).toInt ∧ (B 106 j).toInt ≤ 7 := fun j hj => by rw [g106]; exact f24' j hj
  have kT : zTok A B := by
    unfold zTok at hT ⊢
    rw [hpS.2 5 0 rfl rfl, hpS.1 30 rfl, hpS.1 31 rfl, hpS.1 33 rfl, hpS.1 34 rfl, hpS.1 35 rfl, hpS.1 36 rfl, hpS.1 37 rfl, hpS.1 38 rfl, hpS.1 39 rfl, hpS.1 40 rfl, hpT.2 13 45 rfl rfl, hpT.1 109 rfl, hpT.1 110 rfl, hpT.1 112 rfl, hpT.1 113 rfl, hpT.1 114 rfl, hpT.1 115 rfl, hpT.1 116 rfl, hpT.1 117 rfl, hpT.1 118 rfl, hpT.1 119 rfl]
    obtain ⟨k0, k1, k2, k3, k4, k5, k6, k7, k8, k9, k10, k11, k12, k13, k14, k15, k16, k17, k18, k19⟩ := hT
    exact ⟨k0, k1, k2, a32, k4, k5, k6, k7, k8, k9, k10, k11, k12, k13, b111, k15, k16, k17, k18, k19⟩
  have kP : zPpl A B := by
    unfold zPpl at hP ⊢
    rw [hpS.1 25 rfl, hpS.1 26 rfl, hpS.1 27 rfl, hpS.1 29 rfl, hpT.1 103 rfl, hpT.1 104 rfl, hpT.1 105 rfl, hpT.1 108 rfl]
    obtain ⟨k0, k1, k2, k3, k4, k5, k6⟩ := hP
    exact ⟨a24, k1, k2, k3, a28, k5, b106⟩
  have hQ1 : zQ (n + 1) A B := ⟨(zSeal_kc rfl hpS (zSeal_km rfl hpT (zQ_Seal hQt))), (zKey_kc rfl hpS (zKey_km rfl hpT (zKey_up (zQ_Key hQt)))), (zEng_kc rfl hpS (zEng_km rfl hpT (zQ_Eng hQt))), (zRul_kc rfl hpS (zRul_km rfl hpT (zQ_Rul hQt))), kP, kT, (zLea_kc rfl hpS (zLea_km rfl hpT (zQ_Lea hQt))), (zLT_kc rfl hpS (zLT_km rfl hpT (zQ_LT hQt))), (zSto_kc rfl hpS (zSto_km rfl hpT (zSto_up (zQ_Sto hQt)))), (zFar_kc rfl hpS (zFar_km rfl hpT (zFar_up (zQ_Far hQt)))), (zLog_kc rfl hpS (zLog_km rfl hpT (zLog_up (zQ_Log hQt)))), (zWra_kc rfl hpS (zWra_km rfl hpT (zQ_Wra hQt))), (zCas_kc rfl hpS (zCas_km rfl hpT (zQ_Cas hQt))), (zCer_kc rfl hpS (zCer_km rfl hpT (zQ_Cer hQt))), (zSin_kc rfl hpS (zSin_km rfl hpT (zQ_Sin hQt)))⟩
  exact ⟨⟨(hpT.2 13 0 rfl rfl).trans (zup_s _ _ _ _), fun _ => zup_s _ _ _ _⟩, zQ_R (zQ_out hQ1 _) (zU_out (zUse_kc rfl hpS (zUse_km rfl hpT (zU_thr (zR_Use h) 0))) _)⟩
theorem zyr18 {n : Nat} {S T : zS} (q1 : Int32) (q2 : Int32) (hn : n < 512) (h : zR n S T) : ((G249 q1 q2 T) 13 0) = (F338_0_148 q1 q2 S) ∧ ((F338_0_148 q1 q2 S) = 0 → ((G338_0_148 q1 q2 S) 148 0) = (F249 q1 q2 T)) := (zrq18 q1 q2 hn h).1
theorem zyt18_Ppl {n : Nat} {S T : zS} (q1 : Int32) (q2 : Int32) (hn : n < 512) (h : zR n S T) : zPpl (G338_0_148 q1 q2 S) (M18 q1 q2 T) := zR_Ppl (zrq18 q1 q2 hn h).2
theorem zyt18_Tok {n : Nat} {S T : zS} (q1 : Int32) (q2 : Int32) (hn : n < 512) (h : zR n S T) : zTok (G338_0_148 q1 q2 S) (M18 q1 q2 T) := zR_Tok (zrq18 q1 q2 hn h).2
