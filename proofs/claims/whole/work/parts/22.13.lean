/-! call 13: the class and the reference answer alike (wip/whole/man/13.txt) -/
theorem zyr13 {n : Nat} {S T : zS} (q1 : Int32) (q2 : Int32) (hn : n < 512) (h : zR n S T) : ((G240 q1 q2 T) 13 0) = (F333_0_148 q1 q2 S) ∧ ((F333_0_148 q1 q2 S) = 0 → ((G333_0_148 q1 q2 S) 148 0) = (if ((zb ((¬ ((¬ (q1 < 0)) ∧ (¬ (5 < q1)))) ∨ (¬ ((¬ (q2 < 0)) ∧ (¬ (100 < q2)))))) = 0) then ((T 86 q1.toNatClampNeg) : Int32) else 0)) := by
  first
  | (simp only [F333_0_148, G240, G333_0_148, zup2, zup1, zite2, zite1, upd_r, q_18 h, ite_self, not_false_eq_true, not_true_eq_false, Nat.reduceEqDiff, reduceIte, true_and, and_true, false_and, and_false, ite_true, ite_false]; done)
  | (simp only [F333_0_148, G240, G333_0_148, zup2, zup1, zite2, zite1, upd_r, q_18 h, ite_self, not_false_eq_true, not_true_eq_false, Nat.reduceEqDiff, reduceIte, true_and, and_true, false_and, and_false, ite_true, ite_false]; grind [zb])
theorem zyt13_Eng {n : Nat} {S T : zS} (q1 : Int32) (q2 : Int32) (hn : n < 512) (h : zR n S T) : zEng (G333_0_148 q1 q2 S) (M13 q1 q2 T) := by
  have hr := zR_Eng h
  unfold zEng at hr ⊢
  obtain ⟨h0, h1, h2, h3, h4⟩ := hr
  refine ⟨?_, ?_, ?_, ?_, ?_⟩
  · first
    | exact h0
    | (simp only [F333_0_148, G240, G333_0_148, M13, zup2, zup1, zite2, zite1, upd_r, q_16 h, q_17 h, q_18 h, q_19 h, ite_self, not_false_eq_true, not_true_eq_false, Nat.reduceEqDiff, reduceIte, true_and, and_true, false_and, and_false, ite_true, ite_false]; done)
    | (simp only [F333_0_148, G240, G333_0_148, M13, zup2, zup1, zite2, zite1, upd_r, q_16 h, q_17 h, q_18 h, q_19 h, ite_self, not_false_eq_true, not_true_eq_false, Nat.reduceEqDiff, reduceIte, true_and, and_true, false_and, and_false, ite_true, ite_false]; first | exact h0 | grind [zb] | (funext b; grind [zb]))
  · first
    | exact h1
    | (simp only [F333_0_148, G240, G333_0_148, M13, zup2, zup1, zite2, zite1, upd_r, q_16 h, q_17 h, q_18 h, q_19 h, ite_self, not_false_eq_true, not_true_eq_false, Nat.reduceEqDiff, reduceIte, true_and, and_true, false_and, and_false, ite_true, ite_false]; done)
    | (simp only [F333_0_148, G240, G333_0_148, M13, zup2, zup1, zite2, zite1, upd_r, q_16 h, q_17 h, q_18 h, q_19 h, ite_self, not_false_eq_true, not_true_eq_false, Nat.reduceEqDiff, reduceIte, true_and, and_true, false_and, and_false, ite_true, ite_false]; first | exact h1 | grind [zb] | (funext b; grind [zb]))
  · first
    | exact h2
    | (simp only [F333_0_148, G240, G333_0_148, M13, zup2, zup1, zite2, zite1, upd_r, q_16 h, q_17 h, q_18 h, q_19 h, ite_self, not_false_eq_true, not_true_eq_false, Nat.reduceEqDiff, reduceIte, true_and, and_true, false_and, and_false, ite_true, ite_false]; done)
    | (simp only [F333_0_148, G240, G333_0_148, M13, zup2, zup1, zite2, zite1, upd_r, q_16 h, q_17 h, q_18 h, q_19 h, ite_self, not_false_eq_true, not_true_eq_false, Nat.reduceEqDiff, reduceIte, true_and, and_true, false_and, and_false, ite_true, ite_false]; first | exact h2 | grind [zb] | (funext b; grind [zb]))
  · first
    | exact h3
    | (simp only [F333_0_148, G240, G333_0_148, M13, zup2, zup1, zite2, zite1, upd_r, q_16 h, q_17 h, q_18 h, q_19 h, ite_self, not_false_eq_true, not_true_eq_false, Nat.reduceEqDiff, reduceIte, true_and, and_true, false_and, and_false, ite_true, ite_false]; done)
    | (simp only [F333_0_148, G240, G333_0_148, M13, zup2, zup1, zite2, zite1, upd_r, q_16 h, q_17 h, q_18 h, q_19 h, ite_self, not_false_eq_true, not_true_eq_false, Nat.reduceEqDiff, reduceIte, true_and, and_true, false_and, and_false, ite_true, ite_false]; first | exact h3 | grind [zb] | (funext b; grind [zb]))
  · first
    | exact h4
    | (simp only [F333_0_148, G240, G333_0_148, M13, zup2, zup1, zite2, zite1, upd_r, q_16 h, q_17 h, q_18 h, q_19 h, ite_self, not_false_eq_true, not_true_eq_false, Nat.reduceEqDiff, reduceIte, true_and, and_true, false_and, and_false, ite_true, ite_false]; done)
    | (simp only [F333_0_148, G240, G333_0_148, M13, zup2, zup1, zite2, zite1, upd_r, q_16 h, q_17 h, q_18 h, q_19 h, ite_self, not_false_eq_true, not_true_eq_false, Nat.reduceEqDiff, reduceIte, true_and, and_true, false_and, and_false, ite_true, ite_false]; first | exact h4 | grind [zb] | (funext b; grind [zb]))
