/-! call 49: the class and the reference answer alike (wip/whole/man/49.txt) -/
theorem zyr49 {n : Nat} {S T : zS} (q1 : Int32) (q2 : Int32) (q3 : Int32) (q4 : Int32) (hn : n < 512) (h : zR n S T) : ((G316 q1 (zb (¬ (q2 = 0))) (zb (¬ (q3 = 0))) q4 T) 13 0) = (F367_0_148 q1 (zb (¬ (q2 = 0))) (zb (¬ (q3 = 0))) q4 S) ∧ ((F367_0_148 q1 (zb (¬ (q2 = 0))) (zb (¬ (q3 = 0))) q4 S) = 0 → ((G367_0_148 q1 (zb (¬ (q2 = 0))) (zb (¬ (q3 = 0))) q4 S) 148 0) = (zb (¬ ((F316 q1 (zb (¬ (q2 = 0))) (zb (¬ (q3 = 0))) q4 T) = 0)))) := by
  first
  | (simp only [F316, F367_0_148, G316, G367_0_148, zup2, zup1, zite2, zite1, upd_r, q_77 h, ite_self, not_false_eq_true, not_true_eq_false, Nat.reduceEqDiff, reduceIte, true_and, and_true, false_and, and_false, ite_true, ite_false]; done)
  | (simp only [F316, F367_0_148, G316, G367_0_148, zup2, zup1, zite2, zite1, upd_r, q_77 h, ite_self, not_false_eq_true, not_true_eq_false, Nat.reduceEqDiff, reduceIte, true_and, and_true, false_and, and_false, ite_true, ite_false]; grind [zb])
theorem zyt49_Sin {n : Nat} {S T : zS} (q1 : Int32) (q2 : Int32) (q3 : Int32) (q4 : Int32) (hn : n < 512) (h : zR n S T) : zSin (G367_0_148 q1 (zb (¬ (q2 = 0))) (zb (¬ (q3 = 0))) q4 S) (M49 q1 q2 q3 q4 T) := by
  have hr := zR_Sin h
  unfold zSin at hr ⊢
  obtain ⟨h0, h1, h2, h3, h4, h5⟩ := hr
  refine ⟨?_, ?_, ?_, ?_, ?_, ?_⟩
  · first
    | exact h0
    | (simp only [F316, F367_0_148, G316, G367_0_148, M49, zup2, zup1, zite2, zite1, upd_r, q_77 h, q_78 h, q_79 h, q_80 h, ite_self, not_false_eq_true, not_true_eq_false, Nat.reduceEqDiff, reduceIte, true_and, and_true, false_and, and_false, ite_true, ite_false]; done)
    | (simp only [F316, F367_0_148, G316, G367_0_148, M49, zup2, zup1, zite2, zite1, upd_r, q_77 h, q_78 h, q_79 h, q_80 h, ite_self, not_false_eq_true, not_true_eq_false, Nat.reduceEqDiff, reduceIte, true_and, and_true, false_and, and_false, ite_true, ite_false]; first | exact h0 | grind [zb] | (funext b; grind [zb]))
  · first
    | exact h1
    | (simp only [F316, F367_0_148, G316, G367_0_148, M49, zup2, zup1, zite2, zite1, upd_r, q_77 h, q_78 h, q_79 h, q_80 h, ite_self, not_false_eq_true, not_true_eq_false, Nat.reduceEqDiff, reduceIte, true_and, and_true, false_and, and_false, ite_true, ite_false]; done)
    | (simp only [F316, F367_0_148, G316, G367_0_148, M49, zup2, zup1, zite2, zite1, upd_r, q_77 h, q_78 h, q_79 h, q_80 h, ite_self, not_false_eq_true, not_true_eq_false, Nat.reduceEqDiff, reduceIte, true_and, and_true, false_and, and_false, ite_true, ite_false]; first | exact h1 | grind [zb] | (funext b; grind [zb]))
  · first
    | exact h2
    | (simp only [F316, F367_0_148, G316, G367_0_148, M49, zup2, zup1, zite2, zite1, upd_r, q_77 h, q_78 h, q_79 h, q_80 h, ite_self, not_false_eq_true, not_true_eq_false, Nat.reduceEqDiff, reduceIte, true_and, and_true, false_and, and_false, ite_true, ite_false]; done)
    | (simp only [F316, F367_0_148, G316, G367_0_148, M49, zup2, zup1, zite2, zite1, upd_r, q_77 h, q_78 h, q_79 h, q_80 h, ite_self, not_false_eq_true, not_true_eq_false, Nat.reduceEqDiff, reduceIte, true_and, and_true, false_and, and_false, ite_true, ite_false]; first | exact h2 | grind [zb] | (funext b; grind [zb]))
  · first
    | exact h3
    | (simp only [F316, F367_0_148, G316, G367_0_148, M49, zup2, zup1, zite2, zite1, upd_r, q_77 h, q_78 h, q_79 h, q_80 h, ite_self, not_false_eq_true, not_true_eq_false, Nat.reduceEqDiff, reduceIte, true_and, and_true, false_and, and_false, ite_true, ite_false]; done)
    | (simp only [F316, F367_0_148, G316, G367_0_148, M49, zup2, zup1, zite2, zite1, upd_r, q_77 h, q_78 h, q_79 h, q_80 h, ite_self, not_false_eq_true, not_true_eq_false, Nat.reduceEqDiff, reduceIte, true_and, and_true, false_and, and_false, ite_true, ite_false]; first | exact h3 | grind [zb] | (funext b; grind [zb]))
  · first
    | exact h4
    | (simp only [F316, F367_0_148, G316, G367_0_148, M49, zup2, zup1, zite2, zite1, upd_r, q_77 h, q_78 h, q_79 h, q_80 h, ite_self, not_false_eq_true, not_true_eq_false, Nat.reduceEqDiff, reduceIte, true_and, and_true, false_and, and_false, ite_true, ite_false]; done)
    | (simp only [F316, F367_0_148, G316, G367_0_148, M49, zup2, zup1, zite2, zite1, upd_r, q_77 h, q_78 h, q_79 h, q_80 h, ite_self, not_false_eq_true, not_true_eq_false, Nat.reduceEqDiff, reduceIte, true_and, and_true, false_and, and_false, ite_true, ite_false]; first | exact h4 | (intro j; have hj := h4 j; grind [zb, zo, zn, zlt_m1, zlt_0, zlt_1]) | grind [zb] | (funext b; grind [zb]))
  · first
    | exact h5
    | (simp only [F316, F367_0_148, G316, G367_0_148, M49, zup2, zup1, zite2, zite1, upd_r, q_77 h, q_78 h, q_79 h, q_80 h, ite_self, not_false_eq_true, not_true_eq_false, Nat.reduceEqDiff, reduceIte, true_and, and_true, false_and, and_false, ite_true, ite_false]; done)
    | (simp only [F316, F367_0_148, G316, G367_0_148, M49, zup2, zup1, zite2, zite1, upd_r, q_77 h, q_78 h, q_79 h, q_80 h, ite_self, not_false_eq_true, not_true_eq_false, Nat.reduceEqDiff, reduceIte, true_and, and_true, false_and, and_false, ite_true, ite_false]; first | exact h5 | (intro j; have hj := h5 j; grind [zb, zo, zn, zlt_m1, zlt_0, zlt_1]) | grind [zb] | (funext b; grind [zb]))
