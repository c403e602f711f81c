/-! call 43: the class and the reference answer alike (wip/whole/man/43.txt) -/
theorem zyr43 {n : Nat} {S T : zS} (hn : n < 512) (h : zR n S T) : (S 10 4) = (T 13 72) := by
  first
  | (simp only [zup2, zup1, zite2, zite1, upd_r, q_10_4 h, ite_self, not_false_eq_true, not_true_eq_false, Nat.reduceEqDiff, reduceIte, true_and, and_true, false_and, and_false, ite_true, ite_false]; done)
  | (simp only [zup2, zup1, zite2, zite1, upd_r, q_10_4 h, ite_self, not_false_eq_true, not_true_eq_false, Nat.reduceEqDiff, reduceIte, true_and, and_true, false_and, and_false, ite_true, ite_false]; grind [zb])
