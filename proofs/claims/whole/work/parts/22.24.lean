/-! call 24: the class and the reference answer alike (wip/whole/man/24.txt) -/
theorem zyr24 {n : Nat} {S T : zS} (q1 : Int32) (hn : n < 512) (h : zR n S T) : (zb (¬ ((¬ (q1 < 0)) ∧ (¬ (((T 13 45) - 1) < q1))))) = (F344_0_148 q1 S) ∧ ((F344_0_148 q1 S) = 0 → ((G344_0_148 q1 S) 148 0) = (if ((zb (¬ ((¬ (q1 < 0)) ∧ (¬ (((T 13 45) - 1) < q1))))) = 0) then ((T 117 q1.toNatClampNeg) : Int32) else 0)) := by
  first
  | (simp only [F344_0_148, G344_0_148, zup2, zup1, zite2, zite1, upd_r, zt_le (zn_mono (i_Tok_10 h) (by decide)), q_5_0 h, q_37 h, ite_self, not_false_eq_true, not_true_eq_false, Nat.reduceEqDiff, reduceIte, true_and, and_true, false_and, and_false, ite_true, ite_false]; done)
  | (simp only [F344_0_148, G344_0_148, zup2, zup1, zite2, zite1, upd_r, zt_le (zn_mono (i_Tok_10 h) (by decide)), q_5_0 h, q_37 h, ite_self, not_false_eq_true, not_true_eq_false, Nat.reduceEqDiff, reduceIte, true_and, and_true, false_and, and_false, ite_true, ite_false]; grind [zb])
