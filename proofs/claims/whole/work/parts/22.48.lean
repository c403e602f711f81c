/-! call 48: the class and the reference answer alike (wip/whole/man/48.txt) -/
theorem zyr48 {n : Nat} {S T : zS} (q1 : Int32) (hn : n < 512) (h : zR n S T) : (zb (¬ ((¬ (q1 < 0)) ∧ (¬ (((T 13 79) - 1) < q1))))) = (F366_0_148 q1 S) ∧ ((F366_0_148 q1 S) = 0 → ((G366_0_148 q1 S) 148 0) = (if ((zb (¬ ((¬ (q1 < 0)) ∧ (¬ (((T 13 79) - 1) < q1))))) = 0) then ((T 139 q1.toNatClampNeg) : Int32) else 0)) := by
  first
  | (simp only [F366_0_148, G366_0_148, zup2, zup1, zite2, zite1, upd_r, zt_le (zn_mono (i_Cer_6 h) (by decide)), q_11_0 h, q_74 h, ite_self, not_false_eq_true, not_true_eq_false, Nat.reduceEqDiff, reduceIte, true_and, and_true, false_and, and_false, ite_true, ite_false]; done)
  | (simp only [F366_0_148, G366_0_148, zup2, zup1, zite2, zite1, upd_r, zt_le (zn_mono (i_Cer_6 h) (by decide)), q_11_0 h, q_74 h, ite_self, not_false_eq_true, not_true_eq_false, Nat.reduceEqDiff, reduceIte, true_and, and_true, false_and, and_false, ite_true, ite_false]; grind [zb])
