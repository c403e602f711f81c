/-! call 4: the class and the reference answer alike (wip/whole/man/04.txt) -/
theorem zyr4 {n : Nat} {S T : zS} (hn : n < 512) (h : zR n S T) : (S 1 6) = (T 13 2) := by
  first
  | (simp only [zup2, zup1, zite2, zite1, upd_r, q_1_6 h, ite_self, not_false_eq_true, not_true_eq_false, Nat.reduceEqDiff, reduceIte, true_and, and_true, false_and, and_false, ite_true, ite_false]; done)
  | (simp only [zup2, zup1, zite2, zite1, upd_r, q_1_6 h, ite_self, not_false_eq_true, not_true_eq_false, Nat.reduceEqDiff, reduceIte, true_and, and_true, false_and, and_false, ite_true, ite_false]; grind [zb])
