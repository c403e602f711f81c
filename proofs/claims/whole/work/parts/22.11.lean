/-! call 11: the class and the reference answer alike (wip/whole/man/11.txt) -/
theorem zyr11 {n : Nat} {S T : zS} (hn : n < 512) (h : zR n S T) : (S 2 0) = (T 13 13) := by
  first
  | (simp only [zup2, zup1, zite2, zite1, upd_r, q_2_0 h, ite_self, not_false_eq_true, not_true_eq_false, Nat.reduceEqDiff, reduceIte, true_and, and_true, false_and, and_false, ite_true, ite_false]; done)
  | (simp only [zup2, zup1, zite2, zite1, upd_r, q_2_0 h, ite_self, not_false_eq_true, not_true_eq_false, Nat.reduceEqDiff, reduceIte, true_and, and_true, false_and, and_false, ite_true, ite_false]; grind [zb])
