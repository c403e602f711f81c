/-! call 4: the class and the reference answer alike (wip/whole/man/04.txt) -/
theorem r4 {n : Nat} {S T : zS} (h : zR n S T) : (S 1 6) = (T 13 2) := by
  simp only [zup2, zite2, q_1_6 h, Nat.reduceEqDiff, reduceIte, true_and, and_true, false_and, and_false, ite_true, ite_false]
  grind [zb]
