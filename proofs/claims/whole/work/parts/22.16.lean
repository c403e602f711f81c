/-! call 16: the class and the reference answer alike (wip/whole/man/16.txt) -/
theorem zyr16 {n : Nat} {S T : zS} (q1 : Int32) (q2 : Int32) (q3 : Int32) (hn : n < 512) (h : zR n S T) : ((G246 q1 q2 q3 T) 13 0) = (F336_0_148 q1 q2 q3 S) ∧ ((F336_0_148 q1 q2 q3 S) = 0 → ((G336_0_148 q1 q2 q3 S) 148 0) = (F246 q1 q2 q3 T)) := by
  first
  | (simp only [F246, F336_0_148, G246, G336_0_148, zup2, zup1, zite2, zite1, upd_r, q_25 h, q_26 h, q_27 h, ite_self, not_false_eq_true, not_true_eq_false, Nat.reduceEqDiff, reduceIte, true_and, and_true, false_and, and_false, ite_true, ite_false]; done)
  | (simp only [F246, F336_0_148, G246, G336_0_148, zup2, zup1, zite2, zite1, upd_r, q_25 h, q_26 h, q_27 h, ite_self, not_false_eq_true, not_true_eq_false, Nat.reduceEqDiff, reduceIte, true_and, and_true, false_and, and_false, ite_true, ite_false]; grind [zb])
theorem zyt16_Ppl {n : Nat} {S T : zS} (q1 : Int32) (q2 : Int32) (q3 : Int32) (hn : n < 512) (h : zR n S T) : zPpl (G336_0_148 q1 q2 q3 S) (M16 q1 q2 q3 T) := by
  have hr := zR_Ppl h
  unfold zPpl at hr ⊢
  obtain ⟨h0, h1, h2, h3, h4, h5, h6⟩ := hr
  refine ⟨?_, ?_, ?_, ?_, ?_, ?_, ?_⟩
  · first
    | exact h0
    | (simp only [F246, F336_0_148, G246, G336_0_148, M16, zup2, zup1, zite2, zite1, upd_r, q_24 h, q_25 h, q_26 h, q_27 h, q_28 h, q_29 h, ite_self, not_false_eq_true, not_true_eq_false, Nat.reduceEqDiff, reduceIte, true_and, and_true, false_and, and_false, ite_true, ite_false]; done)
    | (simp only [F246, F336_0_148, G246, G336_0_148, M16, zup2, zup1, zite2, zite1, upd_r, q_24 h, q_25 h, q_26 h, q_27 h, q_28 h, q_29 h, ite_self, not_false_eq_true, not_true_eq_false, Nat.reduceEqDiff, reduceIte, true_and, and_true, false_and, and_false, ite_true, ite_false]; first | exact h0 | grind [zb] | (funext b; grind [zb]))
  · first
    | exact h1
    | (simp only [F246, F336_0_148, G246, G336_0_148, M16, zup2, zup1, zite2, zite1, upd_r, q_24 h, q_25 h, q_26 h, q_27 h, q_28 h, q_29 h, ite_self, not_false_eq_true, not_true_eq_false, Nat.reduceEqDiff, reduceIte, true_and, and_true, false_and, and_false, ite_true, ite_false]; done)
    | (simp only [F246, F336_0_148, G246, G336_0_148, M16, zup2, zup1, zite2, zite1, upd_r, q_24 h, q_25 h, q_26 h, q_27 h, q_28 h, q_29 h, ite_self, not_false_eq_true, not_true_eq_false, Nat.reduceEqDiff, reduceIte, true_and, and_true, false_and, and_false, ite_true, ite_false]; first | exact h1 | grind [zb] | (funext b; grind [zb]))
  · first
    | exact h2
    | (simp only [F246, F336_0_148, G246, G336_0_148, M16, zup2, zup1, zite2, zite1, upd_r, q_24 h, q_25 h, q_26 h, q_27 h, q_28 h, q_29 h, ite_self, not_false_eq_true, not_true_eq_false, Nat.reduceEqDiff, reduceIte, true_and, and_true, false_and, and_false, ite_true, ite_false]; done)
    | (simp only [F246, F336_0_148, G246, G336_0_148, M16, zup2, zup1, zite2, zite1, upd_r, q_24 h, q_25 h, q_26 h, q_27 h, q_28 h, q_29 h, ite_self, not_false_eq_true, not_true_eq_false, Nat.reduceEqDiff, reduceIte, true_and, and_true, false_and, and_false, ite_true, ite_false]; first | exact h2 | grind [zb] | (funext b; grind [zb]))
  · first
    | exact h3
    | (simp only [F246, F336_0_148, G246, G336_0_148, M16, zup2, zup1, zite2, zite1, upd_r, q_24 h, q_25 h, q_26 h, q_27 h, q_28 h, q_29 h, ite_self, not_false_eq_true, not_true_eq_false, Nat.reduceEqDiff, reduceIte, true_and, and_true, false_and, and_false, ite_true, ite_false]; done)
    | (simp only [F246, F336_0_148, G246, G336_0_148, M16, zup2, zup1, zite2, zite1, upd_r, q_24 h, q_25 h, q_26 h, q_27 h, q_28 h, q_29 h, ite_self, not_false_eq_true, not_true_eq_false, Nat.reduceEqDiff, reduceIte, true_and, and_true, false_and, and_false, ite_true, ite_false]; first | exact h3 | grind [zb] | (funext b; grind [zb]))
  · first
    | exact h4
    | (simp only [F246, F336_0_148, G246, G336_0_148, M16, zup2, zup1, zite2, zite1, upd_r, q_24 h, q_25 h, q_26 h, q_27 h, q_28 h, q_29 h, ite_self, not_false_eq_true, not_true_eq_false, Nat.reduceEqDiff, reduceIte, true_and, and_true, false_and, and_false, ite_true, ite_false]; done)
    | (simp only [F246, F336_0_148, G246, G336_0_148, M16, zup2, zup1, zite2, zite1, upd_r, q_24 h, q_25 h, q_26 h, q_27 h, q_28 h, q_29 h, ite_self, not_false_eq_true, not_true_eq_false, Nat.reduceEqDiff, reduceIte, true_and, and_true, false_and, and_false, ite_true, ite_false]; first | exact h4 | grind [zb] | (funext b; grind [zb]))
  · first
    | exact h5
    | (simp only [F246, F336_0_148, G246, G336_0_148, M16, zup2, zup1, zite2, zite1, upd_r, q_24 h, q_25 h, q_26 h, q_27 h, q_28 h, q_29 h, ite_self, not_false_eq_true, not_true_eq_false, Nat.reduceEqDiff, reduceIte, true_and, and_true, false_and, and_false, ite_true, ite_false]; done)
    | (simp only [F246, F336_0_148, G246, G336_0_148, M16, zup2, zup1, zite2, zite1, upd_r, q_24 h, q_25 h, q_26 h, q_27 h, q_28 h, q_29 h, ite_self, not_false_eq_true, not_true_eq_false, Nat.reduceEqDiff, reduceIte, true_and, and_true, false_and, and_false, ite_true, ite_false]; first | exact h5 | grind [zb] | (funext b; grind [zb]))
  · first
    | exact h6
    | (simp only [F246, F336_0_148, G246, G336_0_148, M16, zup2, zup1, zite2, zite1, upd_r, q_24 h, q_25 h, q_26 h, q_27 h, q_28 h, q_29 h, ite_self, not_false_eq_true, not_true_eq_false, Nat.reduceEqDiff, reduceIte, true_and, and_true, false_and, and_false, ite_true, ite_false]; done)
    | (simp only [F246, F336_0_148, G246, G336_0_148, M16, zup2, zup1, zite2, zite1, upd_r, q_24 h, q_25 h, q_26 h, q_27 h, q_28 h, q_29 h, ite_self, not_false_eq_true, not_true_eq_false, Nat.reduceEqDiff, reduceIte, true_and, and_true, false_and, and_false, ite_true, ite_false]; first | exact h6 | (intro j; have hj := h6 j; grind [zb, zo, zn, zlt_m1, zlt_0, zlt_1]) | grind [zb] | (funext b; grind [zb]))
