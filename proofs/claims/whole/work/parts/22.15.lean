/-! call 15: the class and the reference answer alike (wip/whole/man/15.txt) -/
theorem zyr15 {n : Nat} {S T : zS} (q1 : Int32) (hn : n < 512) (h : zR n S T) : ((G243 q1 T) 13 0) = (F335_0_148 q1 S) ∧ ((F335_0_148 q1 S) = 0 → ((G335_0_148 q1 S) 148 0) = (if ((zb (¬ ((¬ (q1 < 0)) ∧ (¬ (7 < q1))))) = 0) then ((T 101 q1.toNatClampNeg) : Int32) else 0)) := by
  first
  | (simp only [F335_0_148, G243, G335_0_148, zup2, zup1, zite2, zite1, upd_r, q_20 h, ite_self, not_false_eq_true, not_true_eq_false, Nat.reduceEqDiff, reduceIte, true_and, and_true, false_and, and_false, ite_true, ite_false]; done)
  | (simp only [F335_0_148, G243, G335_0_148, zup2, zup1, zite2, zite1, upd_r, q_20 h, ite_self, not_false_eq_true, not_true_eq_false, Nat.reduceEqDiff, reduceIte, true_and, and_true, false_and, and_false, ite_true, ite_false]; grind [zb])
theorem zyt15_Rul {n : Nat} {S T : zS} (q1 : Int32) (hn : n < 512) (h : zR n S T) : zRul (G335_0_148 q1 S) (M15 q1 T) := by
  have hr := zR_Rul h
  unfold zRul at hr ⊢
  obtain ⟨h0, h1, h2⟩ := hr
  refine ⟨?_, ?_, ?_⟩
  · first
    | exact h0
    | (simp only [F335_0_148, G243, G335_0_148, M15, zup2, zup1, zite2, zite1, upd_r, q_20 h, ite_self, not_false_eq_true, not_true_eq_false, Nat.reduceEqDiff, reduceIte, true_and, and_true, false_and, and_false, ite_true, ite_false]; done)
    | (simp only [F335_0_148, G243, G335_0_148, M15, zup2, zup1, zite2, zite1, upd_r, q_20 h, ite_self, not_false_eq_true, not_true_eq_false, Nat.reduceEqDiff, reduceIte, true_and, and_true, false_and, and_false, ite_true, ite_false]; first | exact h0 | grind [zb] | (funext b; grind [zb]))
  · first
    | exact h1
    | (simp only [F335_0_148, G243, G335_0_148, M15, zup2, zup1, zite2, zite1, upd_r, q_20 h, ite_self, not_false_eq_true, not_true_eq_false, Nat.reduceEqDiff, reduceIte, true_and, and_true, false_and, and_false, ite_true, ite_false]; done)
    | (simp only [F335_0_148, G243, G335_0_148, M15, zup2, zup1, zite2, zite1, upd_r, q_20 h, ite_self, not_false_eq_true, not_true_eq_false, Nat.reduceEqDiff, reduceIte, true_and, and_true, false_and, and_false, ite_true, ite_false]; first | exact h1 | (intro j; have hj := h1 j; grind [zb, zo, zn, zlt_m1, zlt_0, zlt_1]) | grind [zb] | (funext b; grind [zb]))
  · simp only [F335_0_148, G243, G335_0_148, M15, zup2, zup1, zite2, zite1, upd_r, q_20 h, ite_self, not_false_eq_true, not_true_eq_false, Nat.reduceEqDiff, reduceIte, true_and, and_true, false_and, and_false, ite_true, ite_false]
    intro p hp; have hj := h2 p hp; (repeat' split) <;> first | exact hj | (unfold zn; decide)
