/-! call 50: the class and the reference answer alike (wip/whole/man/50.txt) -/
theorem zyr50 {n : Nat} {S T : zS} (q1 : Int32) (hn : n < 512) (h : zR n S T) : (zb (¬ ((¬ (q1 < 0)) ∧ (¬ (2 < q1))))) = (F368_0_148 q1 S) ∧ ((F368_0_148 q1 S) = 0 → ((G368_0_148 q1 S) 148 0) = (if ((zb (¬ ((¬ (q1 < 0)) ∧ (¬ (2 < q1))))) = 0) then ((T 147 q1.toNatClampNeg) : Int32) else 0)) := by
  first
  | (simp only [F368_0_148, G368_0_148, zup2, zup1, zite2, zite1, upd_r, q_80 h, ite_self, not_false_eq_true, not_true_eq_false, Nat.reduceEqDiff, reduceIte, true_and, and_true, false_and, and_false, ite_true, ite_false]; done)
  | (simp only [F368_0_148, G368_0_148, zup2, zup1, zite2, zite1, upd_r, q_80 h, ite_self, not_false_eq_true, not_true_eq_false, Nat.reduceEqDiff, reduceIte, true_and, and_true, false_and, and_false, ite_true, ite_false]; grind [zb])
