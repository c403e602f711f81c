/-! call 36: the class and the reference answer alike (wip/whole/man/36.txt) -/
theorem zyr36 {n : Nat} {S T : zS} (q1 : Int32) (hn : n < 512) (h : zR n S T) : (zb (¬ ((¬ (q1 < 0)) ∧ (¬ (((T 13 57) - 1) < q1))))) = (F356_0_148 q1 S) ∧ ((F356_0_148 q1 S) = 0 → ((G356_0_148 q1 S) 148 0) = (if ((zb (¬ ((¬ (q1 < 0)) ∧ (¬ (((T 13 57) - 1) < q1))))) = 0) then ((T 123 q1.toNatClampNeg) : Int32) else 0)) := by
  first
  | (simp only [F356_0_148, G356_0_148, zup2, zup1, zite2, zite1, upd_r, zt_le (zn_mono (i_Lea_11 h) (by decide)), q_6_0 h, q_44 h, ite_self, not_false_eq_true, not_true_eq_false, Nat.reduceEqDiff, reduceIte, true_and, and_true, false_and, and_false, ite_true, ite_false]; done)
  | (simp only [F356_0_148, G356_0_148, zup2, zup1, zite2, zite1, upd_r, zt_le (zn_mono (i_Lea_11 h) (by decide)), q_6_0 h, q_44 h, ite_self, not_false_eq_true, not_true_eq_false, Nat.reduceEqDiff, reduceIte, true_and, and_true, false_and, and_false, ite_true, ite_false]; grind [zb])
