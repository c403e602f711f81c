/-! call 1: the class and the reference answer alike (wip/whole/man/01.txt) -/
theorem zyr1 {n : Nat} {S T : zS} (q1 : Int32) (hn : n < 512) (h : zR n S T) : (zb (¬ ((¬ (q1 < 1)) ∧ (¬ ((T 13 4) < q1))))) = (F325_0_148 q1 S) ∧ ((F325_0_148 q1 S) = 0 → ((G325_0_148 q1 S) 148 0) = (if ((zb (¬ ((¬ (q1 < 1)) ∧ (¬ ((T 13 4) < q1))))) = 0) then ((T 81 q1.toNatClampNeg) : Int32) else 0)) := by
  first
  | (simp only [F325_0_148, G325_0_148, zup2, zup1, zite2, zite1, upd_r, q_1_1 h, q_14 h, ite_self, not_false_eq_true, not_true_eq_false, Nat.reduceEqDiff, reduceIte, true_and, and_true, false_and, and_false, ite_true, ite_false]; done)
  | (simp only [F325_0_148, G325_0_148, zup2, zup1, zite2, zite1, upd_r, q_1_1 h, q_14 h, ite_self, not_false_eq_true, not_true_eq_false, Nat.reduceEqDiff, reduceIte, true_and, and_true, false_and, and_false, ite_true, ite_false]; grind [zb])
