/-! call 40: the class and the reference answer alike (wip/whole/man/40.txt) -/
theorem zyr40 {n : Nat} {S T : zS} (q1 : Int32) (h : zR n S T) : ((G299 q1 T) 13 0) = (F360_0_148 q1 S) ∧ ((F360_0_148 q1 S) = 0 → ((G360_0_148 q1 S) 148 0) = (F299 q1 T)) := by
  first
  | (simp only [F299, F360_0_148, G299, G360_0_148, zup2, zup1, zite2, zite1, upd_r, zt_le (zn_mono (i_Wra_4 h) (by decide)), q_1_6 h, q_0_11 h, q_10_0 h, q_63 h, q_64 h, q_65 h, ite_self, not_false_eq_true, not_true_eq_false, Nat.reduceEqDiff, reduceIte, true_and, and_true, false_and, and_false, ite_true, ite_false]; done)
  | (simp only [F299, F360_0_148, G299, G360_0_148, zup2, zup1, zite2, zite1, upd_r, zt_le (zn_mono (i_Wra_4 h) (by decide)), q_1_6 h, q_0_11 h, q_10_0 h, q_63 h, q_64 h, q_65 h, ite_self, not_false_eq_true, not_true_eq_false, Nat.reduceEqDiff, reduceIte, true_and, and_true, false_and, and_false, ite_true, ite_false]; grind [zb])
theorem zyt40_Wra {n : Nat} {S T : zS} (q1 : Int32) (hn : n < 512) (h : zR n S T) : zWra (G360_0_148 q1 S) (M40 q1 T) := by
  have hr := zR_Wra h
  unfold zWra at hr ⊢
  obtain ⟨h0, h1, h2, h3, h4, h5⟩ := hr
  refine ⟨?_, ?_, ?_, ?_, ?_, ?_⟩
  · first
    | exact h0
    | (simp only [F299, F360_0_148, G299, G360_0_148, M40, zup2, zup1, zite2, zite1, upd_r, zt_le (zn_mono (i_Wra_4 h) (by decide)), q_1_6 h, q_0_11 h, q_10_0 h, q_63 h, q_64 h, q_65 h, ite_self, not_false_eq_true, not_true_eq_false, Nat.reduceEqDiff, reduceIte, true_and, and_true, false_and, and_false, ite_true, ite_false]; done)
    | (simp only [F299, F360_0_148, G299, G360_0_148, M40, zup2, zup1, zite2, zite1, upd_r, zt_le (zn_mono (i_Wra_4 h) (by decide)), q_1_6 h, q_0_11 h, q_10_0 h, q_63 h, q_64 h, q_65 h, ite_self, not_false_eq_true, not_true_eq_false, Nat.reduceEqDiff, reduceIte, true_and, and_true, false_and, and_false, ite_true, ite_false]; first | exact h0 | grind [zb] | (funext b; grind [zb]))
  · first
    | exact h1
    | (simp only [F299, F360_0_148, G299, G360_0_148, M40, zup2, zup1, zite2, zite1, upd_r, zt_le (zn_mono (i_Wra_4 h) (by decide)), q_1_6 h, q_0_11 h, q_10_0 h, q_63 h, q_64 h, q_65 h, ite_self, not_false_eq_true, not_true_eq_false, Nat.reduceEqDiff, reduceIte, true_and, and_true, false_and, and_false, ite_true, ite_false]; done)
    | (simp only [F299, F360_0_148, G299, G360_0_148, M40, zup2, zup1, zite2, zite1, upd_r, zt_le (zn_mono (i_Wra_4 h) (by decide)), q_1_6 h, q_0_11 h, q_10_0 h, q_63 h, q_64 h, q_65 h, ite_self, not_false_eq_true, not_true_eq_false, Nat.reduceEqDiff, reduceIte, true_and, and_true, false_and, and_false, ite_true, ite_false]; first | exact h1 | grind [zb] | (funext b; grind [zb]))
  · first
    | exact h2
    | (simp only [F299, F360_0_148, G299, G360_0_148, M40, zup2, zup1, zite2, zite1, upd_r, zt_le (zn_mono (i_Wra_4 h) (by decide)), q_1_6 h, q_0_11 h, q_10_0 h, q_63 h, q_64 h, q_65 h, ite_self, not_false_eq_true, not_true_eq_false, Nat.reduceEqDiff, reduceIte, true_and, and_true, false_and, and_false, ite_true, ite_false]; done)
    | (simp only [F299, F360_0_148, G299, G360_0_148, M40, zup2, zup1, zite2, zite1, upd_r, zt_le (zn_mono (i_Wra_4 h) (by decide)), q_1_6 h, q_0_11 h, q_10_0 h, q_63 h, q_64 h, q_65 h, ite_self, not_false_eq_true, not_true_eq_false, Nat.reduceEqDiff, reduceIte, true_and, and_true, false_and, and_false, ite_true, ite_false]; first | exact h2 | grind [zb] | (funext b; grind [zb]))
  · first
    | exact h3
    | (simp only [F299, F360_0_148, G299, G360_0_148, M40, zup2, zup1, zite2, zite1, upd_r, zt_le (zn_mono (i_Wra_4 h) (by decide)), q_1_6 h, q_0_11 h, q_10_0 h, q_63 h, q_64 h, q_65 h, ite_self, not_false_eq_true, not_true_eq_false, Nat.reduceEqDiff, reduceIte, true_and, and_true, false_and, and_false, ite_true, ite_false]; done)
    | (simp only [F299, F360_0_148, G299, G360_0_148, M40, zup2, zup1, zite2, zite1, upd_r, zt_le (zn_mono (i_Wra_4 h) (by decide)), q_1_6 h, q_0_11 h, q_10_0 h, q_63 h, q_64 h, q_65 h, ite_self, not_false_eq_true, not_true_eq_false, Nat.reduceEqDiff, reduceIte, true_and, and_true, false_and, and_false, ite_true, ite_false]; first | exact h3 | grind [zb] | (funext b; grind [zb]))
  · first
    | exact h4
    | (simp only [F299, F360_0_148, G299, G360_0_148, M40, zup2, zup1, zite2, zite1, upd_r, zt_le (zn_mono (i_Wra_4 h) (by decide)), q_1_6 h, q_0_11 h, q_10_0 h, q_63 h, q_64 h, q_65 h, ite_self, not_false_eq_true, not_true_eq_false, Nat.reduceEqDiff, reduceIte, true_and, and_true, false_and, and_false, ite_true, ite_false]; done)
    | (simp only [F299, F360_0_148, G299, G360_0_148, M40, zup2, zup1, zite2, zite1, upd_r, zt_le (zn_mono (i_Wra_4 h) (by decide)), q_1_6 h, q_0_11 h, q_10_0 h, q_63 h, q_64 h, q_65 h, ite_self, not_false_eq_true, not_true_eq_false, Nat.reduceEqDiff, reduceIte, true_and, and_true, false_and, and_false, ite_true, ite_false]; first | exact h4 | grind [zb] | (funext b; grind [zb]))
  · first
    | exact h5
    | (simp only [F299, F360_0_148, G299, G360_0_148, M40, zup2, zup1, zite2, zite1, upd_r, zt_le (zn_mono (i_Wra_4 h) (by decide)), q_1_6 h, q_0_11 h, q_10_0 h, q_63 h, q_64 h, q_65 h, ite_self, not_false_eq_true, not_true_eq_false, Nat.reduceEqDiff, reduceIte, true_and, and_true, false_and, and_false, ite_true, ite_false]; done)
    | (simp only [F299, F360_0_148, G299, G360_0_148, M40, zup2, zup1, zite2, zite1, upd_r, zt_le (zn_mono (i_Wra_4 h) (by decide)), q_1_6 h, q_0_11 h, q_10_0 h, q_63 h, q_64 h, q_65 h, ite_self, not_false_eq_true, not_true_eq_false, Nat.reduceEqDiff, reduceIte, true_and, and_true, false_and, and_false, ite_true, ite_false]; first | exact h5 | (intro j; have hj := h5 j; grind [zb, zo, zn, zlt_m1, zlt_0, zlt_1]) | grind [zb] | (funext b; grind [zb]))
