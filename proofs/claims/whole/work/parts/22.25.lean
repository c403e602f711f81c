/-! call 25: the class and the reference answer alike (wip/whole/man/25.txt) -/
theorem zyr25 {n : Nat} {S T : zS} (q1 : Int32) (hn : n < 512) (h : zR n S T) : (zb (¬ ((¬ (q1 < 0)) ∧ (¬ (((T 13 45) - 1) < q1))))) = (F345_0_148 q1 S) ∧ ((F345_0_148 q1 S) = 0 → ((G345_0_148 q1 S) 148 0) = (zb (((zb (¬ ((¬ (q1 < 0)) ∧ (¬ (((T 13 45) - 1) < q1))))) = 0) ∧ ((T 119 q1.toNatClampNeg) = 0)))) := by
  first
  | (simp only [F345_0_148, G345_0_148, zup2, zup1, zite2, zite1, upd_r, zt_le (zn_mono (i_Tok_10 h) (by decide)), q_5_0 h, q_40 h, ite_self, not_false_eq_true, not_true_eq_false, Nat.reduceEqDiff, reduceIte, true_and, and_true, false_and, and_false, ite_true, ite_false]; done)
  | (simp only [F345_0_148, G345_0_148, zup2, zup1, zite2, zite1, upd_r, zt_le (zn_mono (i_Tok_10 h) (by decide)), q_5_0 h, q_40 h, ite_self, not_false_eq_true, not_true_eq_false, Nat.reduceEqDiff, reduceIte, true_and, and_true, false_and, and_false, ite_true, ite_false]; grind [zb])
