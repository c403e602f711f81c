/-! call 11: the class and the reference answer alike (wip/whole/man/11.txt) -/
theorem r11 {n : Nat} {S T : zS} (h : zR n S T) : (S 2 0) = (T 13 13) := by
  simp only [zup2, zite2, q_2_0 h, Nat.reduceEqDiff, reduceIte, true_and, and_true, false_and, and_false, ite_true, ite_false]
  grind [zb]
