/-! rules, merging, tokens, revoking by paths (wip/whole/gen/gen89.py) -/
theorem zRul_p {S T : zS} (h : zRul S T) (r0 p : Nat) (hr : r0 < 40) (b c d e f w : Int32) (hb : zn 8 b) (hc : zn 8 c) (hd : zn 8 d) (he : zn 15 e) (hf : zn 2 f) (hw : zn 5 w) : zRul (z_up (z_up (z_up (z_up (z_up (z_up S 21 (3 * r0) b) 21 (3 * r0 + 1) c) 21 (3 * r0 + 2) d) 22 r0 e) 23 r0 f) 20 p w) (z_up (z_up (z_up (z_up (z_up (z_up T 102 (5 * r0) b) 102 (5 * r0 + 1) c) 102 (5 * r0 + 2) d) 102 (5 * r0 + 3) e) 102 (5 * r0 + 4) f) 101 p w) := by
  unfold zRul at h ⊢
  obtain ⟨h0, h1, h2⟩ := h
  simp only [zup2, zup1, h0, Nat.reduceEqDiff, reduceIte, true_and, and_true, ite_true, ite_false]
  refine ⟨?_, ?_⟩
  · intro r hr2
    have k := h1 r hr2
    by_cases e0 : r = r0
    · subst e0
      simp only [if_true, show ¬ 3 * r = 3 * r + 1 by omega, show ¬ 3 * r = 3 * r + 2 by omega, show ¬ 3 * r + 1 = 3 * r + 2 by omega, show ¬ 3 * r + 1 = 3 * r by omega, show ¬ 3 * r + 2 = 3 * r by omega, show ¬ 3 * r + 2 = 3 * r + 1 by omega, show ¬ 5 * r = 5 * r + 1 by omega, show ¬ 5 * r = 5 * r + 2 by omega, show ¬ 5 * r = 5 * r + 3 by omega, show ¬ 5 * r = 5 * r + 4 by omega, show ¬ 5 * r + 1 = 5 * r + 2 by omega, show ¬ 5 * r + 1 = 5 * r + 3 by omega, show ¬ 5 * r + 1 = 5 * r + 4 by omega, show ¬ 5 * r + 2 = 5 * r + 3 by omega, show ¬ 5 * r + 2 = 5 * r + 4 by omega, show ¬ 5 * r + 3 = 5 * r + 4 by omega, if_false, true_and]
      exact ⟨hb, hc, hd, he, hf⟩
    · simp only [e0, show ¬ 3 * r = 3 * r0 by omega, show ¬ 3 * r = 3 * r0 + 1 by omega, show ¬ 3 * r = 3 * r0 + 2 by omega, show ¬ 3 * r + 1 = 3 * r0 by omega, show ¬ 3 * r + 1 = 3 * r0 + 1 by omega, show ¬ 3 * r + 1 = 3 * r0 + 2 by omega, show ¬ 3 * r + 2 = 3 * r0 by omega, show ¬ 3 * r + 2 = 3 * r0 + 1 by omega, show ¬ 3 * r + 2 = 3 * r0 + 2 by omega,
        show ¬ 5 * r = 5 * r0 by omega, show ¬ 5 * r = 5 * r0 + 1 by omega, show ¬ 5 * r = 5 * r0 + 2 by omega, show ¬ 5 * r = 5 * r0 + 3 by omega, show ¬ 5 * r = 5 * r0 + 4 by omega, show ¬ 5 * r + 1 = 5 * r0 by omega, show ¬ 5 * r + 1 = 5 * r0 + 1 by omega, show ¬ 5 * r + 1 = 5 * r0 + 2 by omega, show ¬ 5 * r + 1 = 5 * r0 + 3 by omega, show ¬ 5 * r + 1 = 5 * r0 + 4 by omega,
        show ¬ 5 * r + 2 = 5 * r0 by omega, show ¬ 5 * r + 2 = 5 * r0 + 1 by omega, show ¬ 5 * r + 2 = 5 * r0 + 2 by omega, show ¬ 5 * r + 2 = 5 * r0 + 3 by omega, show ¬ 5 * r + 2 = 5 * r0 + 4 by omega, show ¬ 5 * r + 3 = 5 * r0 by omega, show ¬ 5 * r + 3 = 5 * r0 + 1 by omega, show ¬ 5 * r + 3 = 5 * r0 + 2 by omega, show ¬ 5 * r + 3 = 5 * r0 + 3 by omega, show ¬ 5 * r + 3 = 5 * r0 + 4 by omega,
        show ¬ 5 * r + 4 = 5 * r0 by omega, show ¬ 5 * r + 4 = 5 * r0 + 1 by omega, show ¬ 5 * r + 4 = 5 * r0 + 2 by omega, show ¬ 5 * r + 4 = 5 * r0 + 3 by omega, show ¬ 5 * r + 4 = 5 * r0 + 4 by omega, if_false]
      exact k
  · intro q hq
    split
    · exact hw
    · exact h2 q hq
theorem zrq14 {n : Nat} {S T : zS} (q1 : Int32) (q2 : Int32) (q3 : Int32) (q4 : Int32) (q5 : Int32) (q6 : Int32) (hn : n < 512) (h : zR n S T) : (((G242 q1 q2 q3 q4 q5 q6 T) 13 0) = (F334_0_148 q1 q2 q3 q4 q5 q6 S) ∧ ((F334_0_148 q1 q2 q3 q4 q5 q6 S) = 0 → ((G334_0_148 q1 q2 q3 q4 q5 q6 S) 148 0) = (F242 q1 q2 q3 q4 q5 q6 T))) ∧ zRul (G334_0_148 q1 q2 q3 q4 q5 q6 S) (M14 q1 q2 q3 q4 q5 q6 T) := by
  have hQ := zR_Q h
  have hR := zQ_Rul hQ
  have hRt := zQ_Rul (zQ_thr hQ 0)
  have e20 : S 20 = T 101 := hR.1
  have th : ∀ v, zRul S (z_up T 13 0 v) := fun v => zQ_Rul (zQ_thr hQ v)
  unfold M14
  by_cases hA : ((¬ (q1 < 0)) ∧ (¬ (8 ≤ q1)))
  rotate_left
  · have eF : F334_0_148 q1 q2 q3 q4 q5 q6 S = 1 := by unfold F334_0_148; rw [if_neg hA]
    have hA' : ¬ ((¬ (q1 < 0)) ∧ (¬ (7 < q1))) := by simp only [zk_lt, zk_le, zlt_m1, zlt_0, zlt_1, zlt_2, zlt_3, zlt_4, zlt_5, zlt_6, zlt_7, zlt_8, zlt_9, zlt_10, zlt_15, zlt_16, zlt_20, zlt_24, zlt_30, zlt_36, zlt_39, zlt_40, zlt_50, zlt_72, zlt_100, zlt_199, zlt_200, zlt_215, zlt_216, zlt_255, zlt_256, zlt_1000, zlt_9999, zlt_65535, zlt_1000000000] at hA ⊢; omega
    have e1 : G242 q1 q2 q3 q4 q5 q6 T = z_up T 13 0 1 := by unfold G242; simp only [if_neg hA', if_neg (show ¬ ((1 : Int32) = 0) by decide)]
    have e2 : G334_0_148 q1 q2 q3 q4 q5 q6 S = S := by unfold G334_0_148; rw [if_neg hA]
    rw [e1, e2, eF]
    exact ⟨⟨zup_s _ _ _ _, fun e => absurd e (by decide)⟩, th 1⟩
  have hA' : ((¬ (q1 < 0)) ∧ (¬ (7 < q1))) := by simp only [zk_lt, zk_le, zlt_m1, zlt_0, zlt_1, zlt_2, zlt_3, zlt_4, zlt_5, zlt_6, zlt_7, zlt_8, zlt_9, zlt_10, zlt_15, zlt_16, zlt_20, zlt_24, zlt_30, zlt_36, zlt_39, zlt_40, zlt_50, zlt_72, zlt_100, zlt_199, zlt_200, zlt_215, zlt_216, zlt_255, zlt_256, zlt_1000, zlt_9999, zlt_65535, zlt_1000000000] at hA ⊢; omega
  by_cases hB : (((((¬ (q2 < 0)) ∧ (¬ (8 < q2))) ∧ (((¬ (q3 < 0)) ∧ (¬ (8 < q3))) ∧ ((¬ (q4 < 0)) ∧ (¬ (8 < q4))))) ∧ (((¬ (q5 < 0)) ∧ (¬ (15 < q5))) ∧ ((¬ (q6 < 0)) ∧ (¬ (2 < q6))))))
  rotate_left
  · have eF : F334_0_148 q1 q2 q3 q4 q5 q6 S = 2 := by
      unfold F334_0_148
      rw [if_pos hA]
      by_cases g : ((¬ (q2 < 0)) ∧ (¬ (8 < q2))) ∧ (((¬ (q3 < 0)) ∧ (¬ (8 < q3))) ∧ ((¬ (q4 < 0)) ∧ (¬ (8 < q4))))
      · rw [if_pos g, if_neg (fun q => hB ⟨g, q⟩)]
      · rw [if_neg g]
    have hB' : ¬ (((¬ (q2 < 0)) ∧ (¬ (8 < q2))) ∧ (((¬ (q3 < 0)) ∧ (¬ (8 < q3))) ∧ (((¬ (q4 < 0)) ∧ (¬ (8 < q4))) ∧ (((¬ (q5 < 0)) ∧ (¬ (15 < q5))) ∧ ((¬ (q6 < 0)) ∧ (¬ (2 < q6))))))) := fun q => hB ⟨⟨q.1, q.2.1, q.2.2.1⟩, q.2.2.2⟩
    have e1 : G242 q1 q2 q3 q4 q5 q6 T = z_up T 13 0 2 := by unfold G242; simp only [if_pos hA', if_neg hB', if_neg (show ¬ ((2 : Int32) = 0) by decide)]
    have e2 : G334_0_148 q1 q2 q3 q4 q5 q6 S = S := by
      unfold G334_0_148
      rw [if_pos hA]
      by_cases g : ((¬ (q2 < 0)) ∧ (¬ (8 < q2))) ∧ (((¬ (q3 < 0)) ∧ (¬ (8 < q3))) ∧ ((¬ (q4 < 0)) ∧ (¬ (8 < q4))))
      · rw [if_pos g, if_neg (fun q => hB ⟨g, q⟩)]
      · rw [if_neg g]
    rw [e1, e2, eF]
    exact ⟨⟨zup_s _ _ _ _, fun e => absurd e (by decide)⟩, th 2⟩
  have hB' : (((¬ (q2 < 0)) ∧ (¬ (8 < q2))) ∧ (((¬ (q3 < 0)) ∧ (¬ (8 < q3))) ∧ (((¬ (q4 < 0)) ∧ (¬ (8 < q4))) ∧ (((¬ (q5 < 0)) ∧ (¬ (15 < q5))) ∧ ((¬ (q6 < 0)) ∧ (¬ (2 < q6))))))) := ⟨hB.1.1, hB.1.2.1, hB.1.2.2, hB.2⟩
  have hx8 : 0 ≤ q1.toInt ∧ q1.toInt < 8 := by simp only [zk_lt, zk_le, zlt_m1, zlt_0, zlt_1, zlt_2, zlt_3, zlt_4, zlt_5, zlt_6, zlt_7, zlt_8, zlt_9, zlt_10, zlt_15, zlt_16, zlt_20, zlt_24, zlt_30, zlt_36, zlt_39, zlt_40, zlt_50, zlt_72, zlt_100, zlt_199, zlt_200, zlt_215, zlt_216, zlt_255, zlt_256, zlt_1000, zlt_9999, zlt_65535, zlt_1000000000] at hA; omega
  have hna := zk_nat hx8.1
  have h5 := hR.2.2 q1.toNatClampNeg (by omega)
  have e5 := zeq_top h5 zlt_5
  by_cases hC : T 101 q1.toNatClampNeg < 5
  rotate_left
  · have hC5 : (5 : Int32) ≤ T 101 q1.toNatClampNeg := by rw [zk_lt] at hC; rw [zk_le]; omega
    have eF : F334_0_148 q1 q2 q3 q4 q5 q6 S = 3 := by unfold F334_0_148; rw [e20, if_pos hA, if_pos hB.1, if_pos hB.2, if_neg (fun q => q hC5)]
    have hC' : T 101 q1.toNatClampNeg = 5 := by rw [e5]; exact hC
    have e1 : G242 q1 q2 q3 q4 q5 q6 T = z_up T 13 0 3 := by unfold G242; simp only [if_pos hA', if_pos hB', if_pos hC', if_neg (show ¬ ((3 : Int32) = 0) by decide)]
    have e2 : G334_0_148 q1 q2 q3 q4 q5 q6 S = S := by unfold G334_0_148; rw [e20, if_pos hA, if_pos hB.1, if_pos hB.2, if_neg (fun q => q hC5)]
    rw [e1, e2, eF]
    exact ⟨⟨zup_s _ _ _ _, fun e => absurd e (by decide)⟩, th 3⟩
  have hC5 : ¬ (5 : Int32) ≤ T 101 q1.toNatClampNeg := by rw [zk_lt] at hC; rw [zk_le]; omega
  have hC' : ¬ T 101 q1.toNatClampNeg = 5 := by rw [e5]; exact fun q => q hC
  have hc5 : (T 101 q1.toNatClampNeg).toInt < 5 := by rw [zk_lt, zlt_5] at hC; exact hC
  have hc0 := h5.1
  generalize hcnt : T 101 q1.toNatClampNeg = w at *
  have hnw := zk_nat hc0
  have m1 : (q1 * 5).toInt = q1.toInt * 5 := by rw [zk_tmul (by rw [zlt_5]; omega) (by rw [zlt_5]; omega), zlt_5]
  have m1' : (5 * q1).toInt = q1.toInt * 5 := by rw [Int32.mul_comm]; exact m1
  have m2 : (q1 * 5 + w).toInt = q1.toInt * 5 + w.toInt := by rw [zk_tadd (by omega) (by omega), m1]
  have m2' : (5 * q1 + w).toInt = q1.toInt * 5 + w.toInt := by rw [zk_tadd (by omega) (by omega), m1']
  have n0 : (q1 * 5 + w).toNatClampNeg = 5 * q1.toNatClampNeg + w.toNatClampNeg := by have := zk_nat (x := q1 * 5 + w) (by omega); omega
  have m3 : ((q1 * 5 + w) * 3).toInt = (q1.toInt * 5 + w.toInt) * 3 := by rw [zk_tmul (by rw [zlt_3, m2]; omega) (by rw [zlt_3, m2]; omega), zlt_3, m2]
  have m5 : (5 * (5 * q1 + w)).toInt = (q1.toInt * 5 + w.toInt) * 5 := by rw [zk_tmul (by rw [zlt_5, m2']; omega) (by rw [zlt_5, m2']; omega), zlt_5, m2']; omega
  have n3 : ((q1 * 5 + w) * 3).toNatClampNeg = 3 * (5 * q1.toNatClampNeg + w.toNatClampNeg) := by have := zk_nat (x := (q1 * 5 + w) * 3) (by omega); omega
  have n31 : ((q1 * 5 + w) * 3 + 1).toNatClampNeg = 3 * (5 * q1.toNatClampNeg + w.toNatClampNeg) + 1 := by
    have e := zk_tadd (x := (q1 * 5 + w) * 3) (y := 1) (by rw [zk_1]; omega) (by rw [zk_1]; omega)
    rw [zk_1] at e
    have := zk_nat (x := (q1 * 5 + w) * 3 + 1) (by omega); omega
  have n32 : ((q1 * 5 + w) * 3 + 2).toNatClampNeg = 3 * (5 * q1.toNatClampNeg + w.toNatClampNeg) + 2 := by
    have e := zk_tadd (x := (q1 * 5 + w) * 3) (y := 2) (by rw [zlt_2]; omega) (by rw [zlt_2]; omega)
    rw [zlt_2] at e
    have := zk_nat (x := (q1 * 5 + w) * 3 + 2) (by omega); omega
  have n5 : (5 * (5 * q1 + w)).toNatClampNeg = 5 * (5 * q1.toNatClampNeg + w.toNatClampNeg) := by have := zk_nat (x := 5 * (5 * q1 + w)) (by omega); omega
  have n5k : ∀ k : Nat, 1 ≤ k → k < 5 → (5 * (5 * q1 + w) + Int32.ofNat k).toNatClampNeg = 5 * (5 * q1.toNatClampNeg + w.toNatClampNeg) + k := by
    intro k k1 k2
    have ek := zk_ti k (by omega)
    have e := zk_tadd (x := 5 * (5 * q1 + w)) (y := Int32.ofNat k) (by omega) (by omega)
    have := zk_nat (x := 5 * (5 * q1 + w) + Int32.ofNat k) (by omega); omega
  have n51 : (5 * (5 * q1 + w) + 1).toNatClampNeg = 5 * (5 * q1.toNatClampNeg + w.toNatClampNeg) + 1 := n5k 1 (by decide) (by decide)
  have n52 : (5 * (5 * q1 + w) + 2).toNatClampNeg = 5 * (5 * q1.toNatClampNeg + w.toNatClampNeg) + 2 := n5k 2 (by decide) (by decide)
  have n53 : (5 * (5 * q1 + w) + 3).toNatClampNeg = 5 * (5 * q1.toNatClampNeg + w.toNatClampNeg) + 3 := n5k 3 (by decide) (by decide)
  have n54 : (5 * (5 * q1 + w) + 4).toNatClampNeg = 5 * (5 * q1.toNatClampNeg + w.toNatClampNeg) + 4 := n5k 4 (by decide) (by decide)
  have eF : F334_0_148 q1 q2 q3 q4 q5 q6 S = 0 := by unfold F334_0_148; rw [e20, hcnt, if_pos hA, if_pos hB.1, if_pos hB.2, if_pos hC5]
  have e4 : F242 q1 q2 q3 q4 q5 q6 T = w + 1 := by unfold F242; simp only [hcnt, if_pos hA', if_pos hB', if_neg hC', if_true]
  have e1 : G242 q1 q2 q3 q4 q5 q6 T = z_up (z_up (z_up (z_up (z_up (z_up (z_up T 13 0 0) 102 (5 * (5 * q1.toNatClampNeg + w.toNatClampNeg)) q2) 102 (5 * (5 * q1.toNatClampNeg + w.toNatClampNeg) + 1) q3) 102 (5 * (5 * q1.toNatClampNeg + w.toNatClampNeg) + 2) q4) 102 (5 * (5 * q1.toNatClampNeg + w.toNatClampNeg) + 3) q5) 102 (5 * (5 * q1.toNatClampNeg + w.toNatClampNeg) + 4) q6) 101 q1.toNatClampNeg (w + 1) := by
    unfold G242
    simp only [hcnt, if_pos hA', if_pos hB', if_neg hC', if_true, n5, n51, n52, n53, n54]
  have e2 : G334_0_148 q1 q2 q3 q4 q5 q6 S = z_up (z_up (z_up (z_up (z_up (z_up (z_up S 21 (3 * (5 * q1.toNatClampNeg + w.toNatClampNeg)) q2) 21 (3 * (5 * q1.toNatClampNeg + w.toNatClampNeg) + 1) q3) 21 (3 * (5 * q1.toNatClampNeg + w.toNatClampNeg) + 2) q4) 22 (5 * q1.toNatClampNeg + w.toNatClampNeg) q5) 23 (5 * q1.toNatClampNeg + w.toNatClampNeg) q6) 20 q1.toNatClampNeg (w + 1)) 148 0 (w + 1) := by
    unfold G334_0_148 G62
    rw [e20, hcnt, if_pos hA, if_pos hB.1, if_pos hB.2, if_pos hC5, n3, n31, n32, n0]
  rw [e1, e2, e4, eF]
  have hz := zRul_p hRt (5 * q1.toNatClampNeg + w.toNatClampNeg) q1.toNatClampNeg (by omega) q2 q3 q4 q5 q6 (w + 1) (by unfold zn; have := hB.1.1; simp only [zk_lt, zk_le, zlt_m1, zlt_0, zlt_1, zlt_2, zlt_3, zlt_4, zlt_5, zlt_6, zlt_7, zlt_8, zlt_9, zlt_10, zlt_15, zlt_16, zlt_20, zlt_24, zlt_30, zlt_36, zlt_39, zlt_40, zlt_50, zlt_72, zlt_100, zlt_199, zlt_200, zlt_215, zlt_216, zlt_255, zlt_256, zlt_1000, zlt_9999, zlt_65535, zlt_1000000000] at this; omega) (by unfold zn; have := hB.1.2.1; simp only [zk_lt, zk_le, zlt_m1, zlt_0, zlt_1, zlt_2, zlt_3, zlt_4, zlt_5, zlt_6, zlt_7, zlt_8, zlt_9, zlt_10, zlt_15, zlt_16, zlt_20, zlt_24, zlt_30, zlt_36, zlt_39, zlt_40, zlt_50, zlt_72, zlt_100, zlt_199, zlt_200, zlt_215, zlt_216, zlt_255, zlt_256, zlt_1000, zlt_9999, zlt_65535, zlt_1000000000] at this; omega) (by unfold zn; have := hB.1.2.2; simp only [zk_lt, zk_le, zlt_m1, zlt_0, zlt_1, zlt_2, zlt_3, zlt_4, zlt_5, zlt_6, zlt_7, zlt_8, zlt_9, zlt_10, zlt_15, zlt_16, zlt_20, zlt_24, zlt_30, zlt_36, zlt_39, zlt_40, zlt_50, zlt_72, zlt_100, zlt_199, zlt_200, zlt_215, zlt_216, zlt_255, zlt_256, zlt_1000, zlt_9999, zlt_65535, zlt_1000000000] at this; omega) (by unfold zn; have := hB.2.1; simp only [zk_lt, zk_le, zlt_m1, zlt_0, zlt_1, zlt_2, zlt_3, zlt_4, zlt_5, zlt_6, zlt_7, zlt_8, zlt_9, zlt_10, zlt_15, zlt_16, zlt_20, zlt_24, zlt_30, zlt_36, zlt_39, zlt_40, zlt_50, zlt_72, zlt_100, zlt_199, zlt_200, zlt_215, zlt_216, zlt_255, zlt_256, zlt_1000, zlt_9999, zlt_65535, zlt_1000000000] at this; omega) (by unfold zn; have := hB.2.2; simp only [zk_lt, zk_le, zlt_m1, zlt_0, zlt_1, zlt_2, zlt_3, zlt_4, zlt_5, zlt_6, zlt_7, zlt_8, zlt_9, zlt_10, zlt_15, zlt_16, zlt_20, zlt_24, zlt_30, zlt_36, zlt_39, zlt_40, zlt_50, zlt_72, zlt_100, zlt_199, zlt_200, zlt_215, zlt_216, zlt_255, zlt_256, zlt_1000, zlt_9999, zlt_65535, zlt_1000000000] at this; omega) (by unfold zn; rw [zk_tadd (by rw [zk_1]; omega) (by rw [zk_1]; omega), zk_1]; omega)
  refine ⟨⟨?_, fun _ => zup_s _ _ _ _⟩, zRul_kc rfl (zkp_up (l := [148]) (fl := []) zkp_S rfl rfl) hz⟩
  simp only [zup2, Nat.reduceEqDiff, reduceIte, ite_true, ite_false]
theorem zyr14 {n : Nat} {S T : zS} (q1 : Int32) (q2 : Int32) (q3 : Int32) (q4 : Int32) (q5 : Int32) (q6 : Int32) (hn : n < 512) (h : zR n S T) : ((G242 q1 q2 q3 q4 q5 q6 T) 13 0) = (F334_0_148 q1 q2 q3 q4 q5 q6 S) ∧ ((F334_0_148 q1 q2 q3 q4 q5 q6 S) = 0 → ((G334_0_148 q1 q2 q3 q4 q5 q6 S) 148 0) = (F242 q1 q2 q3 q4 q5 q6 T)) := (zrq14 q1 q2 q3 q4 q5 q6 hn h).1
theorem zyt14_Rul {n : Nat} {S T : zS} (q1 : Int32) (q2 : Int32) (q3 : Int32) (q4 : Int32) (q5 : Int32) (q6 : Int32) (hn : n < 512) (h : zR n S T) : zRul (G334_0_148 q1 q2 q3 q4 q5 q6 S) (M14 q1 q2 q3 q4 q5 q6 T) := (zrq14 q1 q2 q3 q4 q5 q6 hn h).2
theorem zend {S T : zS} (h : zLea S T) (x1 x2 x3 f s : Int32) (u : Option zV) (hx3 : T 13 1 = x3) (hP : ∀ p : Int32, zx 216 p → (((¬ p < x1) ∧ (¬ x2 ≤ p)) ↔ ((p / 36 = f) ∧ (s = -1 ∨ zrem (p / 6) 6 = s)))) : zLea (K53_4_S x1 x2 x3 0 0 S) (K271_4_S f s 0 u 0 T) ∧ K53_4_c4 x1 x2 x3 0 0 S = K271_4_c3 f s 0 u 0 T ∧ (∀ i, (K271_4_S f s 0 u 0 T) 125 i = 0 → T 125 i = 0) := by
  unfold K53_4_S K53_4_c4 K53_4 K271_4_S K271_4_c3 K271_4
  rw [h.1]
  have key := zfold_sim (f := k53_4 x1 x2 x3) (g := k271_4 f s) (i := 0) (n := (T 13 57).toNatClampNeg - 0) (a := ((0 : Int32), S)) (b := ((0 : Int32), u, T)) (I := fun j c d => c.1 = d.1 ∧ zLea c.2 d.2.2 ∧ d.2.2 13 = T 13 ∧ (∀ i, d.2.2 125 i = 0 → T 125 i = 0)) ⟨rfl, h, rfl, fun _ e => e⟩ (fun j c d hj hI => by
    obtain ⟨e1, hL, e13, el⟩ := hI
    have hj' : j < (d.2.2 13 57).toNatClampNeg := by rw [e13]; omega
    have hj4 : j < 40 := by have := zn_cl hL.2.2.2.2.2.2.2.2.2.2.2.1; omega
    have s46 : c.2 46 = d.2.2 125 := hL.2.2.2.2.2.2.1
    have s42 : c.2 42 = d.2.2 121 := hL.2.2.1
    have hp := hL.2.2.2.2.2.2.2.2.2.2.2.2.2.1 j hj4
    have hq := hP _ hp
    have d10 : ((1 : Int32) = 0) = False := eq_false (by decide)
    have d10n : ((1 : Nat) = 0) = False := eq_false (by decide)
    rw [Nat.zero_add]
    unfold k53_4 k271_4
    dsimp only
    simp only [d10, d10n, if_true, if_false]
    rw [s46, s42, e13, hx3, e1]
    by_cases c0 : d.2.2 125 j = 0
    rotate_left
    · rw [if_neg c0, if_neg c0, if_neg (fun q => c0 q.1), if_neg (fun q => c0 q.1)]
      exact ⟨rfl, hL, e13, el⟩
    by_cases c1 : (¬ d.2.2 121 j < x1) ∧ (¬ x2 ≤ d.2.2 121 j)
    rotate_left
    · have c2 : ¬ (d.2.2 125 j = 0 ∧ (d.2.2 121 j / 36 = f ∧ (s = -1 ∨ zrem (d.2.2 121 j / 6) 6 = s))) := fun q => c1 (hq.mpr q.2)
      rw [if_pos c0, if_pos c0, if_neg c2, if_neg c2]
      by_cases c3 : d.2.2 121 j < x1
      · rw [if_pos c3, if_pos c3]; exact ⟨rfl, hL, e13, el⟩
      · have c4 : x2 ≤ d.2.2 121 j := Classical.byContradiction (fun q => c1 ⟨c3, q⟩)
        rw [if_neg c3, if_neg c3, if_pos c4, if_pos c4]; exact ⟨rfl, hL, e13, el⟩
    have c2 : (d.2.2 125 j = 0 ∧ (d.2.2 121 j / 36 = f ∧ (s = -1 ∨ zrem (d.2.2 121 j / 6) 6 = s))) := ⟨c0, hq.mp c1⟩
    rw [if_pos c0, if_pos c0, if_pos c2, if_pos c2, if_neg c1.1, if_neg c1.1, if_neg c1.2, if_neg c1.2]
    have hz := zLeX_t (zLeX_end hL hj' c0 x3)
    obtain ⟨z1, z2, z3⟩ := z269_s j hj4 (z_up (z_up d.2.2 123 j x3) 126 j 0)
    refine ⟨rfl, hz, ?_, fun i e => ?_⟩
    · rw [z269_k _ _ 13 (by decide) (by decide) (by decide)]; exact (zupc rfl).trans ((zupc rfl).trans e13)
    · by_cases hij : i = j
      · subst hij; exact absurd e z1
      · rw [z2 i hij] at e
        exact el i (((zupci rfl).trans (zupci rfl)).symm.trans e))
  exact ⟨key.2.1, key.1, key.2.2.2⟩
theorem zlt_mono {S T T' S' : zS} (h : zLT S T) (e57 : T' 13 57 = T 13 57) (e45 : T' 13 45 = T 13 45) (e119 : T' 119 = T 119) (e120 : T' 120 = T 120) (hm : ∀ i, T' 125 i = 0 → T 125 i = 0) : zLT S' T' := by
  intro i hi e
  rw [e57] at hi
  rw [e119, e120, e45]
  exact h i hi (hm i e)
/-- paths by their first segments -/
theorem zpath1 (a p : Int32) (ha : zx 6 a) (hp : zx 216 p) : ((¬ p < a * 36) ∧ (¬ a * 36 + 36 ≤ p)) ↔ (p / 36 = a ∧ ((-1 : Int32) = -1 ∨ zrem (p / 6) 6 = -1)) := by
  rw [zx_iff] at ha hp
  have e36 : (36 : Int32).toInt = 36 := rfl
  have m1 : (a * 36).toInt = a.toInt * 36 := by rw [zk_tmul (by rw [e36]; omega) (by rw [e36]; omega), e36]
  have m2 : (a * 36 + 36).toInt = a.toInt * 36 + 36 := by rw [zk_tadd (by rw [e36]; omega) (by rw [e36]; omega), m1, e36]
  have m3 := zdiv_ti (x := p) (y := 36) (by decide) hp.1
  rw [e36] at m3
  rw [zk_lt, zk_le, m1, m2, zk_eq, m3]
  constructor
  · intro q; exact ⟨by omega, Or.inl rfl⟩
  · intro q; have := q.1; omega
theorem zpath2 (a b p : Int32) (ha : zx 6 a) (hb : zx 6 b) (hp : zx 216 p) : ((¬ p < a * 36 + b * 6) ∧ (¬ a * 36 + b * 6 + 6 ≤ p)) ↔ (p / 36 = a ∧ (b = -1 ∨ zrem (p / 6) 6 = b)) := by
  have hb1 := zx_m1 hb
  rw [zx_iff] at ha hb hp
  have e36 : (36 : Int32).toInt = 36 := rfl
  have m1 : (a * 36).toInt = a.toInt * 36 := by rw [zk_tmul (by rw [e36]; omega) (by rw [e36]; omega), e36]
  have m0 : (b * 6).toInt = b.toInt * 6 := by rw [zk_tmul (by rw [zlt_6]; omega) (by rw [zlt_6]; omega), zlt_6]
  have m2 : (a * 36 + b * 6).toInt = a.toInt * 36 + b.toInt * 6 := by rw [zk_tadd (by omega) (by omega), m1, m0]
  have m4 : (a * 36 + b * 6 + 6).toInt = a.toInt * 36 + b.toInt * 6 + 6 := by rw [zk_tadd (by rw [zlt_6]; omega) (by rw [zlt_6]; omega), m2, zlt_6]
  have m3 := zdiv_ti (x := p) (y := 36) (by decide) hp.1
  rw [e36] at m3
  have m5 := zdiv_ti (x := p) (y := 6) (by decide) hp.1
  rw [zlt_6] at m5
  have m6 := zrem_nn (x := p / 6) (y := 6) (by decide) (by omega)
  rw [zlt_6, m5] at m6
  rw [zk_lt, zk_le, m2, m4, zk_eq, m3]
  constructor
  · intro q; exact ⟨by omega, Or.inr (zk_eq.mpr (by rw [m6]; omega))⟩
  · rintro ⟨q1, q2⟩
    have q3 := q2.resolve_left hb1
    rw [zk_eq, m6] at q3
    omega
theorem zrq34 {n : Nat} {S T : zS} (q1 : Int32) (q2 : Int32) (hn : n < 512) (h : zR n S T) : (((G276 q1 q2 T) 13 0) = (F354_0_148 q1 q2 S) ∧ ((F354_0_148 q1 q2 S) = 0 → ((G354_0_148 q1 q2 S) 148 0) = (F276 q1 q2 T))) ∧ zR (n + 1) (G354_0_148 q1 q2 S) (M34 q1 q2 T) := by
  have hQ := zR_Q h
  have hQt := zQ_thr hQ 0
  have s11 : S 0 11 = T 13 1 := (zQ_Key hQ).2.2.2.2.2.2.1
  have t131 : (z_up T 13 0 0) 13 1 = T 13 1 := zupf rfl
  unfold M34
  by_cases hC : (((¬ (q1 < 0)) ∧ (¬ (6 ≤ q1))) ∧ ((q2 = (-1)) ∨ ((¬ (q2 < 0)) ∧ (¬ (6 ≤ q2)))))
  · have ha : zx 6 q1 := by rw [zx_iff]; have := hC.1; simp only [zk_lt, zk_le, zlt_m1, zlt_0, zlt_1, zlt_2, zlt_3, zlt_4, zlt_5, zlt_6, zlt_7, zlt_8, zlt_9, zlt_10, zlt_15, zlt_16, zlt_20, zlt_24, zlt_30, zlt_36, zlt_39, zlt_40, zlt_50, zlt_72, zlt_100, zlt_199, zlt_200, zlt_215, zlt_216, zlt_255, zlt_256, zlt_1000, zlt_9999, zlt_65535, zlt_1000000000] at this; omega
    have h2 : -1 ≤ q2.toInt ∧ q2.toInt ≤ 5 := by
      rcases hC.2 with e | e
      · rw [e]; decide
      · simp only [zk_lt, zk_le, zlt_m1, zlt_0, zlt_1, zlt_2, zlt_3, zlt_4, zlt_5, zlt_6, zlt_7, zlt_8, zlt_9, zlt_10, zlt_15, zlt_16, zlt_20, zlt_24, zlt_30, zlt_36, zlt_39, zlt_40, zlt_50, zlt_72, zlt_100, zlt_199, zlt_200, zlt_215, zlt_216, zlt_255, zlt_256, zlt_1000, zlt_9999, zlt_65535, zlt_1000000000] at e; omega
    have hg : (zb ((¬ ((¬ (q1 < 0)) ∧ (¬ (5 < q1)))) ∨ (¬ ((¬ (q2 < (-1))) ∧ (¬ (5 < q2)))))) = 0 := by rw [zb_0]; have := hC.1; simp only [zk_lt, zk_le, zlt_m1, zlt_0, zlt_1, zlt_2, zlt_3, zlt_4, zlt_5, zlt_6, zlt_7, zlt_8, zlt_9, zlt_10, zlt_15, zlt_16, zlt_20, zlt_24, zlt_30, zlt_36, zlt_39, zlt_40, zlt_50, zlt_72, zlt_100, zlt_199, zlt_200, zlt_215, zlt_216, zlt_255, zlt_256, zlt_1000, zlt_9999, zlt_65535, zlt_1000000000] at this ⊢; omega
    have eF : F354_0_148 q1 q2 S = 0 := by unfold F354_0_148; rw [zb_0]; exact fun q => q hC
    have hz : zLea (K53_4_S ((q1 * 36) + (if (q2 = (-1)) then (0 : Int32) else (q2 * 6))) (((q1 * 36) + (if (q2 = (-1)) then (0 : Int32) else (q2 * 6))) + (if (q2 = (-1)) then (36 : Int32) else 6)) (S 0 11) 0 0 S) (K271_4_S q1 q2 0 (none : Option zV) 0 (z_up T 13 0 0)) ∧ K53_4_c4 ((q1 * 36) + (if (q2 = (-1)) then (0 : Int32) else (q2 * 6))) (((q1 * 36) + (if (q2 = (-1)) then (0 : Int32) else (q2 * 6))) + (if (q2 = (-1)) then (36 : Int32) else 6)) (S 0 11) 0 0 S = K271_4_c3 q1 q2 0 (none : Option zV) 0 (z_up T 13 0 0) ∧ (∀ i, (K271_4_S q1 q2 0 (none : Option zV) 0 (z_up T 13 0 0)) 125 i = 0 → (z_up T 13 0 0) 125 i = 0) := by
      refine zend (zQ_Lea hQt) _ _ _ q1 q2 (none : Option zV) (t131.trans s11.symm) (fun p hp => ?_)
      by_cases e : q2 = -1
      · simp only [if_pos e]; rw [Int32.add_zero, e]; exact zpath1 q1 p ha hp
      · simp only [if_neg e]; exact zpath2 q1 q2 p ha (by rw [zx_iff]; have : q2.toInt ≠ -1 := fun q => e (zk_eq.mpr q); omega) hp
    have e1 : G276 q1 q2 T = K271_4_S q1 q2 0 (none : Option zV) 0 (z_up T 13 0 0) := by unfold G276; rw [hg, if_pos rfl]
    have e4 : F276 q1 q2 T = K271_4_c3 q1 q2 0 (none : Option zV) 0 (z_up T 13 0 0) := by unfold F276; rw [hg, if_pos rfl]
    have e2 : G354_0_148 q1 q2 S = z_up (K53_4_S ((q1 * 36) + (if (q2 = (-1)) then (0 : Int32) else (q2 * 6))) (((q1 * 36) + (if (q2 = (-1)) then (0 : Int32) else (q2 * 6))) + (if (q2 = (-1)) then (36 : Int32) else 6)) (S 0 11) 0 0 S) 148 0 (K53_4_c4 ((q1 * 36) + (if (q2 = (-1)) then (0 : Int32) else (q2 * 6))) (((q1 * 36) + (if (q2 = (-1)) then (0 : Int32) else (q2 * 6))) + (if (q2 = (-1)) then (36 : Int32) else 6)) (S 0 11) 0 0 S) := by unfold G354_0_148; rw [if_pos hC]
    rw [e1, e2, e4, eF]
    have hpS := p_K53_4_S ((q1 * 36) + (if (q2 = (-1)) then (0 : Int32) else (q2 * 6))) (((q1 * 36) + (if (q2 = (-1)) then (0 : Int32) else (q2 * 6))) + (if (q2 = (-1)) then (36 : Int32) else 6)) (S 0 11) 0 0 S
    have hpT := p_K271_4_S q1 q2 0 (none : Option zV) 0 (z_up T 13 0 0)
    generalize K53_4_S ((q1 * 36) + (if (q2 = (-1)) then (0 : Int32) else (q2 * 6))) (((q1 * 36) + (if (q2 = (-1)) then (0 : Int32) else (q2 * 6))) + (if (q2 = (-1)) then (36 : Int32) else 6)) (S 0 11) 0 0 S = S1 at *
    generalize K271_4_S q1 q2 0 (none : Option zV) 0 (z_up T 13 0 0) = T1 at *
    have hLT : zLT S1 T1 := zlt_mono (zQ_LT hQt) (congrFun (hpT.1 13 rfl) 57) (congrFun (hpT.1 13 rfl) 45) (hpT.1 119 rfl) (hpT.1 120 rfl) hz.2.2
    have hQ1 : zQ (n + 1) S1 T1 := ⟨(zSeal_kc rfl hpS (zSeal_km rfl hpT (zQ_Seal hQt))), (zKey_kc rfl hpS (zKey_km rfl hpT (zKey_up (zQ_Key hQt)))), (zEng_kc rfl hpS (zEng_km rfl hpT (zQ_Eng hQt))), (zRul_kc rfl hpS (zRul_km rfl hpT (zQ_Rul hQt))), (zPpl_kc rfl hpS (zPpl_km rfl hpT (zQ_Ppl hQt))), (zTok_kc rfl hpS (zTok_km rfl hpT (zQ_Tok hQt))), hz.1, hLT, (zSto_kc rfl hpS (zSto_km rfl hpT (zSto_up (zQ_Sto hQt)))), (zFar_kc rfl hpS (zFar_km rfl hpT (zFar_up (zQ_Far hQt)))), (zLog_kc rfl hpS (zLog_km rfl hpT (zLog_up (zQ_Log hQt)))), (zWra_kc rfl hpS (zWra_km rfl hpT (zQ_Wra hQt))), (zCas_kc rfl hpS (zCas_km rfl hpT (zQ_Cas hQt))), (zCer_kc rfl hpS (zCer_km rfl hpT (zQ_Cer hQt))), (zSin_kc rfl hpS (zSin_km rfl hpT (zQ_Sin hQt)))⟩
    have hU1 : zUse S1 T1 := zUse_kc rfl hpS (zUse_km rfl hpT (zU_thr (zR_Use h) 0))
    exact ⟨⟨(hpT.2 13 0 rfl rfl).trans (zup_s _ _ _ _), fun _ => (zup_s _ _ _ _).trans hz.2.1⟩, zQ_R (zQ_out hQ1 _) (zU_out hU1 _)⟩
  · have hg : (zb ((¬ ((¬ (q1 < 0)) ∧ (¬ (5 < q1)))) ∨ (¬ ((¬ (q2 < (-1))) ∧ (¬ (5 < q2)))))) = 1 := by
      refine (zb_01 _).resolve_left (fun e => hC ?_)
      rw [zb_0] at e
      by_cases e2 : q2 = -1
      · refine ⟨?_, Or.inl e2⟩
        simp only [zk_lt, zk_le, zlt_m1, zlt_0, zlt_1, zlt_2, zlt_3, zlt_4, zlt_5, zlt_6, zlt_7, zlt_8, zlt_9, zlt_10, zlt_15, zlt_16, zlt_20, zlt_24, zlt_30, zlt_36, zlt_39, zlt_40, zlt_50, zlt_72, zlt_100, zlt_199, zlt_200, zlt_215, zlt_216, zlt_255, zlt_256, zlt_1000, zlt_9999, zlt_65535, zlt_1000000000] at e ⊢; omega
      · have e3 : q2.toInt ≠ -1 := fun q => e2 (zk_eq.mpr q)
        simp only [zk_lt, zk_le, zlt_m1, zlt_0, zlt_1, zlt_2, zlt_3, zlt_4, zlt_5, zlt_6, zlt_7, zlt_8, zlt_9, zlt_10, zlt_15, zlt_16, zlt_20, zlt_24, zlt_30, zlt_36, zlt_39, zlt_40, zlt_50, zlt_72, zlt_100, zlt_199, zlt_200, zlt_215, zlt_216, zlt_255, zlt_256, zlt_1000, zlt_9999, zlt_65535, zlt_1000000000] at e ⊢; omega
    have eF : F354_0_148 q1 q2 S = 1 := by unfold F354_0_148; exact (zb_01 _).resolve_left (by rw [zb_0]; exact fun q => q hC)
    have e1 : G276 q1 q2 T = z_up T 13 0 1 := by unfold G276; rw [hg, if_neg (show ¬ ((1 : Int32) = 0) by decide)]
    have e2 : G354_0_148 q1 q2 S = S := by unfold G354_0_148; rw [if_neg hC]
    rw [e1, e2, eF]
    exact ⟨⟨zup_s _ _ _ _, fun e => absurd e (by decide)⟩, zQ_R (zQ_thr (zQ_up hQ) 1) (zU_thr (zR_Use h) 1)⟩
theorem zyr34 {n : Nat} {S T : zS} (q1 : Int32) (q2 : Int32) (hn : n < 512) (h : zR n S T) : ((G276 q1 q2 T) 13 0) = (F354_0_148 q1 q2 S) ∧ ((F354_0_148 q1 q2 S) = 0 → ((G354_0_148 q1 q2 S) 148 0) = (F276 q1 q2 T)) := (zrq34 q1 q2 hn h).1
theorem zyt34_Lea {n : Nat} {S T : zS} (q1 : Int32) (q2 : Int32) (hn : n < 512) (h : zR n S T) : zLea (G354_0_148 q1 q2 S) (M34 q1 q2 T) := zR_Lea (zrq34 q1 q2 hn h).2
theorem zyt34_LT {n : Nat} {S T : zS} (q1 : Int32) (q2 : Int32) (hn : n < 512) (h : zR n S T) : zLT (G354_0_148 q1 q2 S) (M34 q1 q2 T) := zR_LT (zrq34 q1 q2 hn h).2
