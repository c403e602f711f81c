/-! call 40: the class and the reference answer alike (wip/whole/man/40.txt) -/
theorem zyr40 {n : Nat} {S T : zS} (q1 : Int32) (hn : n < 512) (h : zR n S T) : ((G299 q1 T) 13 0) = (F360_0_148 q1 S) ∧ ((F360_0_148 q1 S) = 0 → ((G360_0_148 q1 S) 148 0) = (F299 q1 T)) := by
  simp only [F299, F360_0_148, G299, G360_0_148, zup2, zup1, zite2, zite1, upd_r, zt_le (zn_mono (i_Wra_4 h) (by decide)), q_1_6 h, q_0_11 h, q_10_0 h, q_63 h, q_64 h, q_65 h, ite_self, not_false_eq_true, not_true_eq_false, Nat.reduceEqDiff, reduceIte, true_and, and_true, false_and, and_false, ite_true, ite_false]
  first
  | done
  | (simp only [zk_lt, zk_le, zlt_m1, zlt_0, zlt_1, zlt_2, zlt_3, zlt_4, zlt_5, zlt_6, zlt_7, zlt_8, zlt_9, zlt_10, zlt_15, zlt_16, zlt_20, zlt_24, zlt_30, zlt_36, zlt_39, zlt_40, zlt_50, zlt_72, zlt_100, zlt_199, zlt_200, zlt_215, zlt_216, zlt_255, zlt_256, zlt_1000, zlt_9999, zlt_65535, zlt_1000000000, Int.lt_iff_add_one_le, zti_ite, zb_0, Decidable.not_not, zif_x1, zif_x2, zif_x3, zif_1x, zif_2x, zif_3x, zite_an, and_assoc, ite_self, not_false_eq_true, not_true_eq_false, Nat.reduceEqDiff, reduceIte, true_and, and_true, false_and, and_false, ite_true, ite_false]; done)
  | (simp only [zk_lt, zk_le, zlt_m1, zlt_0, zlt_1, zlt_2, zlt_3, zlt_4, zlt_5, zlt_6, zlt_7, zlt_8, zlt_9, zlt_10, zlt_15, zlt_16, zlt_20, zlt_24, zlt_30, zlt_36, zlt_39, zlt_40, zlt_50, zlt_72, zlt_100, zlt_199, zlt_200, zlt_215, zlt_216, zlt_255, zlt_256, zlt_1000, zlt_9999, zlt_65535, zlt_1000000000, Int.lt_iff_add_one_le, zti_ite, zb_0, Decidable.not_not, zif_x1, zif_x2, zif_x3, zif_1x, zif_2x, zif_3x, zite_an, and_assoc, ite_self, not_false_eq_true, not_true_eq_false, Nat.reduceEqDiff, reduceIte, true_and, and_true, false_and, and_false, ite_true, ite_false]; grind [zb])
  | grind [zb]
theorem zyt40_Wra {n : Nat} {S T : zS} (q1 : Int32) (hn : n < 512) (h : zR n S T) : zWra (G360_0_148 q1 S) (M40 q1 T) := by
  have hr := zR_Wra h
  unfold zWra at hr ⊢
  obtain ⟨h0, h1, h2, h3, h4, h5⟩ := hr
  have hq : ∀ j : Nat, (T 13 68).toNatClampNeg ≤ j → ¬ q1 < 0 → ¬ T 13 68 ≤ q1 → ¬ j = q1.toNatClampNeg := by
    intro j hj h1 h2 e
    rw [zk_lt, zlt_0] at h1
    rw [zk_le] at h2
    have e1 := zk_nat (x := q1) (by omega)
    have e2 := zk_nat (x := T 13 68) h4.1
    omega
  refine ⟨?_, ?_, ?_, ?_, ?_, ?_⟩
  · (try simp only [F299, F360_0_148, G299, G360_0_148, M40, zup2, zup1, zite2, zite1, upd_r, zt_le (zn_mono (i_Wra_4 h) (by decide)), q_1_6 h, q_0_11 h, q_10_0 h, q_63 h, q_64 h, q_65 h, ite_self, not_false_eq_true, not_true_eq_false, Nat.reduceEqDiff, reduceIte, true_and, and_true, false_and, and_false, ite_true, ite_false])
    first
    | done
    | with_reducible exact h0
    | (simp only [zk_lt, zk_le, zlt_m1, zlt_0, zlt_1, zlt_2, zlt_3, zlt_4, zlt_5, zlt_6, zlt_7, zlt_8, zlt_9, zlt_10, zlt_15, zlt_16, zlt_20, zlt_24, zlt_30, zlt_36, zlt_39, zlt_40, zlt_50, zlt_72, zlt_100, zlt_199, zlt_200, zlt_215, zlt_216, zlt_255, zlt_256, zlt_1000, zlt_9999, zlt_65535, zlt_1000000000, Int.lt_iff_add_one_le, zti_ite, zb_0, Decidable.not_not, zif_x1, zif_x2, zif_x3, zif_1x, zif_2x, zif_3x, zite_an, and_assoc, ite_self, not_false_eq_true, not_true_eq_false, Nat.reduceEqDiff, reduceIte, true_and, and_true, false_and, and_false, ite_true, ite_false]; done)
    | (simp only [zk_lt, zk_le, zlt_m1, zlt_0, zlt_1, zlt_2, zlt_3, zlt_4, zlt_5, zlt_6, zlt_7, zlt_8, zlt_9, zlt_10, zlt_15, zlt_16, zlt_20, zlt_24, zlt_30, zlt_36, zlt_39, zlt_40, zlt_50, zlt_72, zlt_100, zlt_199, zlt_200, zlt_215, zlt_216, zlt_255, zlt_256, zlt_1000, zlt_9999, zlt_65535, zlt_1000000000, Int.lt_iff_add_one_le, zti_ite, zb_0, Decidable.not_not, zif_x1, zif_x2, zif_x3, zif_1x, zif_2x, zif_3x, zite_an, and_assoc, ite_self, not_false_eq_true, not_true_eq_false, Nat.reduceEqDiff, reduceIte, true_and, and_true, false_and, and_false, ite_true, ite_false]; with_reducible exact h0)
    | grind [zb]
  · (try simp only [F299, F360_0_148, G299, G360_0_148, M40, zup2, zup1, zite2, zite1, upd_r, zt_le (zn_mono (i_Wra_4 h) (by decide)), q_1_6 h, q_0_11 h, q_10_0 h, q_63 h, q_64 h, q_65 h, ite_self, not_false_eq_true, not_true_eq_false, Nat.reduceEqDiff, reduceIte, true_and, and_true, false_and, and_false, ite_true, ite_false])
    first
    | done
    | with_reducible exact h1
    | (simp only [zk_lt, zk_le, zlt_m1, zlt_0, zlt_1, zlt_2, zlt_3, zlt_4, zlt_5, zlt_6, zlt_7, zlt_8, zlt_9, zlt_10, zlt_15, zlt_16, zlt_20, zlt_24, zlt_30, zlt_36, zlt_39, zlt_40, zlt_50, zlt_72, zlt_100, zlt_199, zlt_200, zlt_215, zlt_216, zlt_255, zlt_256, zlt_1000, zlt_9999, zlt_65535, zlt_1000000000, Int.lt_iff_add_one_le, zti_ite, zb_0, Decidable.not_not, zif_x1, zif_x2, zif_x3, zif_1x, zif_2x, zif_3x, zite_an, and_assoc, ite_self, not_false_eq_true, not_true_eq_false, Nat.reduceEqDiff, reduceIte, true_and, and_true, false_and, and_false, ite_true, ite_false]; done)
    | (simp only [zk_lt, zk_le, zlt_m1, zlt_0, zlt_1, zlt_2, zlt_3, zlt_4, zlt_5, zlt_6, zlt_7, zlt_8, zlt_9, zlt_10, zlt_15, zlt_16, zlt_20, zlt_24, zlt_30, zlt_36, zlt_39, zlt_40, zlt_50, zlt_72, zlt_100, zlt_199, zlt_200, zlt_215, zlt_216, zlt_255, zlt_256, zlt_1000, zlt_9999, zlt_65535, zlt_1000000000, Int.lt_iff_add_one_le, zti_ite, zb_0, Decidable.not_not, zif_x1, zif_x2, zif_x3, zif_1x, zif_2x, zif_3x, zite_an, and_assoc, ite_self, not_false_eq_true, not_true_eq_false, Nat.reduceEqDiff, reduceIte, true_and, and_true, false_and, and_false, ite_true, ite_false]; with_reducible exact h1)
    | grind [zb]
  · (try simp only [F299, F360_0_148, G299, G360_0_148, M40, zup2, zup1, zite2, zite1, upd_r, zt_le (zn_mono (i_Wra_4 h) (by decide)), q_1_6 h, q_0_11 h, q_10_0 h, q_63 h, q_64 h, q_65 h, ite_self, not_false_eq_true, not_true_eq_false, Nat.reduceEqDiff, reduceIte, true_and, and_true, false_and, and_false, ite_true, ite_false])
    first
    | done
    | with_reducible exact h2
    | (simp only [zk_lt, zk_le, zlt_m1, zlt_0, zlt_1, zlt_2, zlt_3, zlt_4, zlt_5, zlt_6, zlt_7, zlt_8, zlt_9, zlt_10, zlt_15, zlt_16, zlt_20, zlt_24, zlt_30, zlt_36, zlt_39, zlt_40, zlt_50, zlt_72, zlt_100, zlt_199, zlt_200, zlt_215, zlt_216, zlt_255, zlt_256, zlt_1000, zlt_9999, zlt_65535, zlt_1000000000, Int.lt_iff_add_one_le, zti_ite, zb_0, Decidable.not_not, zif_x1, zif_x2, zif_x3, zif_1x, zif_2x, zif_3x, zite_an, and_assoc, ite_self, not_false_eq_true, not_true_eq_false, Nat.reduceEqDiff, reduceIte, true_and, and_true, false_and, and_false, ite_true, ite_false]; done)
    | (simp only [zk_lt, zk_le, zlt_m1, zlt_0, zlt_1, zlt_2, zlt_3, zlt_4, zlt_5, zlt_6, zlt_7, zlt_8, zlt_9, zlt_10, zlt_15, zlt_16, zlt_20, zlt_24, zlt_30, zlt_36, zlt_39, zlt_40, zlt_50, zlt_72, zlt_100, zlt_199, zlt_200, zlt_215, zlt_216, zlt_255, zlt_256, zlt_1000, zlt_9999, zlt_65535, zlt_1000000000, Int.lt_iff_add_one_le, zti_ite, zb_0, Decidable.not_not, zif_x1, zif_x2, zif_x3, zif_1x, zif_2x, zif_3x, zite_an, and_assoc, ite_self, not_false_eq_true, not_true_eq_false, Nat.reduceEqDiff, reduceIte, true_and, and_true, false_and, and_false, ite_true, ite_false]; with_reducible exact h2)
    | grind [zb]
  · (try simp only [F299, F360_0_148, G299, G360_0_148, M40, zup2, zup1, zite2, zite1, upd_r, zt_le (zn_mono (i_Wra_4 h) (by decide)), q_1_6 h, q_0_11 h, q_10_0 h, q_63 h, q_64 h, q_65 h, ite_self, not_false_eq_true, not_true_eq_false, Nat.reduceEqDiff, reduceIte, true_and, and_true, false_and, and_false, ite_true, ite_false])
    first
    | done
    | with_reducible exact h3
    | (simp only [zk_lt, zk_le, zlt_m1, zlt_0, zlt_1, zlt_2, zlt_3, zlt_4, zlt_5, zlt_6, zlt_7, zlt_8, zlt_9, zlt_10, zlt_15, zlt_16, zlt_20, zlt_24, zlt_30, zlt_36, zlt_39, zlt_40, zlt_50, zlt_72, zlt_100, zlt_199, zlt_200, zlt_215, zlt_216, zlt_255, zlt_256, zlt_1000, zlt_9999, zlt_65535, zlt_1000000000, Int.lt_iff_add_one_le, zti_ite, zb_0, Decidable.not_not, zif_x1, zif_x2, zif_x3, zif_1x, zif_2x, zif_3x, zite_an, and_assoc, ite_self, not_false_eq_true, not_true_eq_false, Nat.reduceEqDiff, reduceIte, true_and, and_true, false_and, and_false, ite_true, ite_false]; done)
    | (simp only [zk_lt, zk_le, zlt_m1, zlt_0, zlt_1, zlt_2, zlt_3, zlt_4, zlt_5, zlt_6, zlt_7, zlt_8, zlt_9, zlt_10, zlt_15, zlt_16, zlt_20, zlt_24, zlt_30, zlt_36, zlt_39, zlt_40, zlt_50, zlt_72, zlt_100, zlt_199, zlt_200, zlt_215, zlt_216, zlt_255, zlt_256, zlt_1000, zlt_9999, zlt_65535, zlt_1000000000, Int.lt_iff_add_one_le, zti_ite, zb_0, Decidable.not_not, zif_x1, zif_x2, zif_x3, zif_1x, zif_2x, zif_3x, zite_an, and_assoc, ite_self, not_false_eq_true, not_true_eq_false, Nat.reduceEqDiff, reduceIte, true_and, and_true, false_and, and_false, ite_true, ite_false]; with_reducible exact h3)
    | grind [zb]
  · (try simp only [F299, F360_0_148, G299, G360_0_148, M40, zup2, zup1, zite2, zite1, upd_r, zt_le (zn_mono (i_Wra_4 h) (by decide)), q_1_6 h, q_0_11 h, q_10_0 h, q_63 h, q_64 h, q_65 h, ite_self, not_false_eq_true, not_true_eq_false, Nat.reduceEqDiff, reduceIte, true_and, and_true, false_and, and_false, ite_true, ite_false])
    first
    | done
    | with_reducible exact h4
    | (simp only [zk_lt, zk_le, zlt_m1, zlt_0, zlt_1, zlt_2, zlt_3, zlt_4, zlt_5, zlt_6, zlt_7, zlt_8, zlt_9, zlt_10, zlt_15, zlt_16, zlt_20, zlt_24, zlt_30, zlt_36, zlt_39, zlt_40, zlt_50, zlt_72, zlt_100, zlt_199, zlt_200, zlt_215, zlt_216, zlt_255, zlt_256, zlt_1000, zlt_9999, zlt_65535, zlt_1000000000, Int.lt_iff_add_one_le, zti_ite, zb_0, Decidable.not_not, zif_x1, zif_x2, zif_x3, zif_1x, zif_2x, zif_3x, zite_an, and_assoc, ite_self, not_false_eq_true, not_true_eq_false, Nat.reduceEqDiff, reduceIte, true_and, and_true, false_and, and_false, ite_true, ite_false]; done)
    | (simp only [zk_lt, zk_le, zlt_m1, zlt_0, zlt_1, zlt_2, zlt_3, zlt_4, zlt_5, zlt_6, zlt_7, zlt_8, zlt_9, zlt_10, zlt_15, zlt_16, zlt_20, zlt_24, zlt_30, zlt_36, zlt_39, zlt_40, zlt_50, zlt_72, zlt_100, zlt_199, zlt_200, zlt_215, zlt_216, zlt_255, zlt_256, zlt_1000, zlt_9999, zlt_65535, zlt_1000000000, Int.lt_iff_add_one_le, zti_ite, zb_0, Decidable.not_not, zif_x1, zif_x2, zif_x3, zif_1x, zif_2x, zif_3x, zite_an, and_assoc, ite_self, not_false_eq_true, not_true_eq_false, Nat.reduceEqDiff, reduceIte, true_and, and_true, false_and, and_false, ite_true, ite_false]; with_reducible exact h4)
    | grind [zb]
  · simp only [F299, F360_0_148, G299, G360_0_148, M40, zup2, zup1, zite2, zite1, upd_r, zt_le (zn_mono (i_Wra_4 h) (by decide)), q_1_6 h, q_0_11 h, q_10_0 h, q_63 h, q_64 h, q_65 h, ite_self, not_false_eq_true, not_true_eq_false, Nat.reduceEqDiff, reduceIte, true_and, and_true, false_and, and_false, ite_true, ite_false]
    intro j hj; have hk := h5 j hj; have hq := hq j hj; grind [zb]
