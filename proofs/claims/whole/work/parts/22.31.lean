/-! call 31: the class and the reference answer alike (wip/whole/man/31.txt) -/
theorem zyr31 {n : Nat} {S T : zS} (q1 : Int32) (q2 : Int32) (h : zR n S T) : ((G272 q1 q2 T) 13 0) = (F351_0_148 q1 q2 S) ∧ ((F351_0_148 q1 q2 S) = 0 → ((G351_0_148 q1 q2 S) 148 0) = (F272 q1 q2 T)) := by
  first
  | (simp only [F272, F351_0_148, G272, G351_0_148, zup2, zup1, zite2, zite1, upd_r, q_48 h, ite_self, not_false_eq_true, not_true_eq_false, Nat.reduceEqDiff, reduceIte, true_and, and_true, false_and, and_false, ite_true, ite_false]; done)
  | (simp only [F272, F351_0_148, G272, G351_0_148, zup2, zup1, zite2, zite1, upd_r, q_48 h, ite_self, not_false_eq_true, not_true_eq_false, Nat.reduceEqDiff, reduceIte, true_and, and_true, false_and, and_false, ite_true, ite_false]; grind [zb])
theorem zyt31_Lea {n : Nat} {S T : zS} (q1 : Int32) (q2 : Int32) (hn : n < 512) (h : zR n S T) : zLea (G351_0_148 q1 q2 S) (M31 q1 q2 T) := by
  have hr := zR_Lea h
  unfold zLea at hr ⊢
  obtain ⟨h0, h1, h2, h3, h4, h5, h6, h7, h8, h9, h10, h11, h12, h13, h14, h15, h16, h17⟩ := hr
  refine ⟨?_, ?_, ?_, ?_, ?_, ?_, ?_, ?_, ?_, ?_, ?_, ?_, ?_, ?_, ?_, ?_, ?_, ?_⟩
  · first
    | exact h0
    | (simp only [F272, F351_0_148, G272, G351_0_148, M31, zup2, zup1, zite2, zite1, upd_r, q_6_0 h, q_41 h, q_42 h, q_43 h, q_44 h, q_45 h, q_46 h, q_47 h, q_48 h, q_49 h, q_50 h, ite_self, not_false_eq_true, not_true_eq_false, Nat.reduceEqDiff, reduceIte, true_and, and_true, false_and, and_false, ite_true, ite_false]; done)
    | (simp only [F272, F351_0_148, G272, G351_0_148, M31, zup2, zup1, zite2, zite1, upd_r, q_6_0 h, q_41 h, q_42 h, q_43 h, q_44 h, q_45 h, q_46 h, q_47 h, q_48 h, q_49 h, q_50 h, ite_self, not_false_eq_true, not_true_eq_false, Nat.reduceEqDiff, reduceIte, true_and, and_true, false_and, and_false, ite_true, ite_false]; first | exact h0 | grind [zb] | (funext b; grind [zb]))
  · first
    | exact h1
    | (simp only [F272, F351_0_148, G272, G351_0_148, M31, zup2, zup1, zite2, zite1, upd_r, q_6_0 h, q_41 h, q_42 h, q_43 h, q_44 h, q_45 h, q_46 h, q_47 h, q_48 h, q_49 h, q_50 h, ite_self, not_false_eq_true, not_true_eq_false, Nat.reduceEqDiff, reduceIte, true_and, and_true, false_and, and_false, ite_true, ite_false]; done)
    | (simp only [F272, F351_0_148, G272, G351_0_148, M31, zup2, zup1, zite2, zite1, upd_r, q_6_0 h, q_41 h, q_42 h, q_43 h, q_44 h, q_45 h, q_46 h, q_47 h, q_48 h, q_49 h, q_50 h, ite_self, not_false_eq_true, not_true_eq_false, Nat.reduceEqDiff, reduceIte, true_and, and_true, false_and, and_false, ite_true, ite_false]; first | exact h1 | grind [zb] | (funext b; grind [zb]))
  · first
    | exact h2
    | (simp only [F272, F351_0_148, G272, G351_0_148, M31, zup2, zup1, zite2, zite1, upd_r, q_6_0 h, q_41 h, q_42 h, q_43 h, q_44 h, q_45 h, q_46 h, q_47 h, q_48 h, q_49 h, q_50 h, ite_self, not_false_eq_true, not_true_eq_false, Nat.reduceEqDiff, reduceIte, true_and, and_true, false_and, and_false, ite_true, ite_false]; done)
    | (simp only [F272, F351_0_148, G272, G351_0_148, M31, zup2, zup1, zite2, zite1, upd_r, q_6_0 h, q_41 h, q_42 h, q_43 h, q_44 h, q_45 h, q_46 h, q_47 h, q_48 h, q_49 h, q_50 h, ite_self, not_false_eq_true, not_true_eq_false, Nat.reduceEqDiff, reduceIte, true_and, and_true, false_and, and_false, ite_true, ite_false]; first | exact h2 | grind [zb] | (funext b; grind [zb]))
  · first
    | exact h3
    | (simp only [F272, F351_0_148, G272, G351_0_148, M31, zup2, zup1, zite2, zite1, upd_r, q_6_0 h, q_41 h, q_42 h, q_43 h, q_44 h, q_45 h, q_46 h, q_47 h, q_48 h, q_49 h, q_50 h, ite_self, not_false_eq_true, not_true_eq_false, Nat.reduceEqDiff, reduceIte, true_and, and_true, false_and, and_false, ite_true, ite_false]; done)
    | (simp only [F272, F351_0_148, G272, G351_0_148, M31, zup2, zup1, zite2, zite1, upd_r, q_6_0 h, q_41 h, q_42 h, q_43 h, q_44 h, q_45 h, q_46 h, q_47 h, q_48 h, q_49 h, q_50 h, ite_self, not_false_eq_true, not_true_eq_false, Nat.reduceEqDiff, reduceIte, true_and, and_true, false_and, and_false, ite_true, ite_false]; first | exact h3 | grind [zb] | (funext b; grind [zb]))
  · first
    | exact h4
    | (simp only [F272, F351_0_148, G272, G351_0_148, M31, zup2, zup1, zite2, zite1, upd_r, q_6_0 h, q_41 h, q_42 h, q_43 h, q_44 h, q_45 h, q_46 h, q_47 h, q_48 h, q_49 h, q_50 h, ite_self, not_false_eq_true, not_true_eq_false, Nat.reduceEqDiff, reduceIte, true_and, and_true, false_and, and_false, ite_true, ite_false]; done)
    | (simp only [F272, F351_0_148, G272, G351_0_148, M31, zup2, zup1, zite2, zite1, upd_r, q_6_0 h, q_41 h, q_42 h, q_43 h, q_44 h, q_45 h, q_46 h, q_47 h, q_48 h, q_49 h, q_50 h, ite_self, not_false_eq_true, not_true_eq_false, Nat.reduceEqDiff, reduceIte, true_and, and_true, false_and, and_false, ite_true, ite_false]; first | exact h4 | grind [zb] | (funext b; grind [zb]))
  · first
    | exact h5
    | (simp only [F272, F351_0_148, G272, G351_0_148, M31, zup2, zup1, zite2, zite1, upd_r, q_6_0 h, q_41 h, q_42 h, q_43 h, q_44 h, q_45 h, q_46 h, q_47 h, q_48 h, q_49 h, q_50 h, ite_self, not_false_eq_true, not_true_eq_false, Nat.reduceEqDiff, reduceIte, true_and, and_true, false_and, and_false, ite_true, ite_false]; done)
    | (simp only [F272, F351_0_148, G272, G351_0_148, M31, zup2, zup1, zite2, zite1, upd_r, q_6_0 h, q_41 h, q_42 h, q_43 h, q_44 h, q_45 h, q_46 h, q_47 h, q_48 h, q_49 h, q_50 h, ite_self, not_false_eq_true, not_true_eq_false, Nat.reduceEqDiff, reduceIte, true_and, and_true, false_and, and_false, ite_true, ite_false]; first | exact h5 | grind [zb] | (funext b; grind [zb]))
  · first
    | exact h6
    | (simp only [F272, F351_0_148, G272, G351_0_148, M31, zup2, zup1, zite2, zite1, upd_r, q_6_0 h, q_41 h, q_42 h, q_43 h, q_44 h, q_45 h, q_46 h, q_47 h, q_48 h, q_49 h, q_50 h, ite_self, not_false_eq_true, not_true_eq_false, Nat.reduceEqDiff, reduceIte, true_and, and_true, false_and, and_false, ite_true, ite_false]; done)
    | (simp only [F272, F351_0_148, G272, G351_0_148, M31, zup2, zup1, zite2, zite1, upd_r, q_6_0 h, q_41 h, q_42 h, q_43 h, q_44 h, q_45 h, q_46 h, q_47 h, q_48 h, q_49 h, q_50 h, ite_self, not_false_eq_true, not_true_eq_false, Nat.reduceEqDiff, reduceIte, true_and, and_true, false_and, and_false, ite_true, ite_false]; first | exact h6 | grind [zb] | (funext b; grind [zb]))
  · first
    | exact h7
    | (simp only [F272, F351_0_148, G272, G351_0_148, M31, zup2, zup1, zite2, zite1, upd_r, q_6_0 h, q_41 h, q_42 h, q_43 h, q_44 h, q_45 h, q_46 h, q_47 h, q_48 h, q_49 h, q_50 h, ite_self, not_false_eq_true, not_true_eq_false, Nat.reduceEqDiff, reduceIte, true_and, and_true, false_and, and_false, ite_true, ite_false]; done)
    | (simp only [F272, F351_0_148, G272, G351_0_148, M31, zup2, zup1, zite2, zite1, upd_r, q_6_0 h, q_41 h, q_42 h, q_43 h, q_44 h, q_45 h, q_46 h, q_47 h, q_48 h, q_49 h, q_50 h, ite_self, not_false_eq_true, not_true_eq_false, Nat.reduceEqDiff, reduceIte, true_and, and_true, false_and, and_false, ite_true, ite_false]; first | exact h7 | grind [zb] | (funext b; grind [zb]))
  · first
    | exact h8
    | (simp only [F272, F351_0_148, G272, G351_0_148, M31, zup2, zup1, zite2, zite1, upd_r, q_6_0 h, q_41 h, q_42 h, q_43 h, q_44 h, q_45 h, q_46 h, q_47 h, q_48 h, q_49 h, q_50 h, ite_self, not_false_eq_true, not_true_eq_false, Nat.reduceEqDiff, reduceIte, true_and, and_true, false_and, and_false, ite_true, ite_false]; done)
    | (simp only [F272, F351_0_148, G272, G351_0_148, M31, zup2, zup1, zite2, zite1, upd_r, q_6_0 h, q_41 h, q_42 h, q_43 h, q_44 h, q_45 h, q_46 h, q_47 h, q_48 h, q_49 h, q_50 h, ite_self, not_false_eq_true, not_true_eq_false, Nat.reduceEqDiff, reduceIte, true_and, and_true, false_and, and_false, ite_true, ite_false]; first | exact h8 | grind [zb] | (funext b; grind [zb]))
  · first
    | exact h9
    | (simp only [F272, F351_0_148, G272, G351_0_148, M31, zup2, zup1, zite2, zite1, upd_r, q_6_0 h, q_41 h, q_42 h, q_43 h, q_44 h, q_45 h, q_46 h, q_47 h, q_48 h, q_49 h, q_50 h, ite_self, not_false_eq_true, not_true_eq_false, Nat.reduceEqDiff, reduceIte, true_and, and_true, false_and, and_false, ite_true, ite_false]; done)
    | (simp only [F272, F351_0_148, G272, G351_0_148, M31, zup2, zup1, zite2, zite1, upd_r, q_6_0 h, q_41 h, q_42 h, q_43 h, q_44 h, q_45 h, q_46 h, q_47 h, q_48 h, q_49 h, q_50 h, ite_self, not_false_eq_true, not_true_eq_false, Nat.reduceEqDiff, reduceIte, true_and, and_true, false_and, and_false, ite_true, ite_false]; first | exact h9 | grind [zb] | (funext b; grind [zb]))
  · first
    | exact h10
    | (simp only [F272, F351_0_148, G272, G351_0_148, M31, zup2, zup1, zite2, zite1, upd_r, q_6_0 h, q_41 h, q_42 h, q_43 h, q_44 h, q_45 h, q_46 h, q_47 h, q_48 h, q_49 h, q_50 h, ite_self, not_false_eq_true, not_true_eq_false, Nat.reduceEqDiff, reduceIte, true_and, and_true, false_and, and_false, ite_true, ite_false]; done)
    | (simp only [F272, F351_0_148, G272, G351_0_148, M31, zup2, zup1, zite2, zite1, upd_r, q_6_0 h, q_41 h, q_42 h, q_43 h, q_44 h, q_45 h, q_46 h, q_47 h, q_48 h, q_49 h, q_50 h, ite_self, not_false_eq_true, not_true_eq_false, Nat.reduceEqDiff, reduceIte, true_and, and_true, false_and, and_false, ite_true, ite_false]; first | exact h10 | grind [zb] | (funext b; grind [zb]))
  · first
    | exact h11
    | (simp only [F272, F351_0_148, G272, G351_0_148, M31, zup2, zup1, zite2, zite1, upd_r, q_6_0 h, q_41 h, q_42 h, q_43 h, q_44 h, q_45 h, q_46 h, q_47 h, q_48 h, q_49 h, q_50 h, ite_self, not_false_eq_true, not_true_eq_false, Nat.reduceEqDiff, reduceIte, true_and, and_true, false_and, and_false, ite_true, ite_false]; done)
    | (simp only [F272, F351_0_148, G272, G351_0_148, M31, zup2, zup1, zite2, zite1, upd_r, q_6_0 h, q_41 h, q_42 h, q_43 h, q_44 h, q_45 h, q_46 h, q_47 h, q_48 h, q_49 h, q_50 h, ite_self, not_false_eq_true, not_true_eq_false, Nat.reduceEqDiff, reduceIte, true_and, and_true, false_and, and_false, ite_true, ite_false]; first | exact h11 | grind [zb] | (funext b; grind [zb]))
  · first
    | exact h12
    | (simp only [F272, F351_0_148, G272, G351_0_148, M31, zup2, zup1, zite2, zite1, upd_r, q_6_0 h, q_41 h, q_42 h, q_43 h, q_44 h, q_45 h, q_46 h, q_47 h, q_48 h, q_49 h, q_50 h, ite_self, not_false_eq_true, not_true_eq_false, Nat.reduceEqDiff, reduceIte, true_and, and_true, false_and, and_false, ite_true, ite_false]; done)
    | (simp only [F272, F351_0_148, G272, G351_0_148, M31, zup2, zup1, zite2, zite1, upd_r, q_6_0 h, q_41 h, q_42 h, q_43 h, q_44 h, q_45 h, q_46 h, q_47 h, q_48 h, q_49 h, q_50 h, ite_self, not_false_eq_true, not_true_eq_false, Nat.reduceEqDiff, reduceIte, true_and, and_true, false_and, and_false, ite_true, ite_false]; first | exact h12 | grind [zb] | (funext b; grind [zb]))
  · first
    | exact h13
    | (simp only [F272, F351_0_148, G272, G351_0_148, M31, zup2, zup1, zite2, zite1, upd_r, q_6_0 h, q_41 h, q_42 h, q_43 h, q_44 h, q_45 h, q_46 h, q_47 h, q_48 h, q_49 h, q_50 h, ite_self, not_false_eq_true, not_true_eq_false, Nat.reduceEqDiff, reduceIte, true_and, and_true, false_and, and_false, ite_true, ite_false]; done)
    | (simp only [F272, F351_0_148, G272, G351_0_148, M31, zup2, zup1, zite2, zite1, upd_r, q_6_0 h, q_41 h, q_42 h, q_43 h, q_44 h, q_45 h, q_46 h, q_47 h, q_48 h, q_49 h, q_50 h, ite_self, not_false_eq_true, not_true_eq_false, Nat.reduceEqDiff, reduceIte, true_and, and_true, false_and, and_false, ite_true, ite_false]; first | exact h13 | grind [zb] | (funext b; grind [zb]))
  · first
    | exact h14
    | (simp only [F272, F351_0_148, G272, G351_0_148, M31, zup2, zup1, zite2, zite1, upd_r, q_6_0 h, q_41 h, q_42 h, q_43 h, q_44 h, q_45 h, q_46 h, q_47 h, q_48 h, q_49 h, q_50 h, ite_self, not_false_eq_true, not_true_eq_false, Nat.reduceEqDiff, reduceIte, true_and, and_true, false_and, and_false, ite_true, ite_false]; done)
    | (simp only [F272, F351_0_148, G272, G351_0_148, M31, zup2, zup1, zite2, zite1, upd_r, q_6_0 h, q_41 h, q_42 h, q_43 h, q_44 h, q_45 h, q_46 h, q_47 h, q_48 h, q_49 h, q_50 h, ite_self, not_false_eq_true, not_true_eq_false, Nat.reduceEqDiff, reduceIte, true_and, and_true, false_and, and_false, ite_true, ite_false]; first | exact h14 | grind [zb] | (funext b; grind [zb]))
  · first
    | exact h15
    | (simp only [F272, F351_0_148, G272, G351_0_148, M31, zup2, zup1, zite2, zite1, upd_r, q_6_0 h, q_41 h, q_42 h, q_43 h, q_44 h, q_45 h, q_46 h, q_47 h, q_48 h, q_49 h, q_50 h, ite_self, not_false_eq_true, not_true_eq_false, Nat.reduceEqDiff, reduceIte, true_and, and_true, false_and, and_false, ite_true, ite_false]; done)
    | (simp only [F272, F351_0_148, G272, G351_0_148, M31, zup2, zup1, zite2, zite1, upd_r, q_6_0 h, q_41 h, q_42 h, q_43 h, q_44 h, q_45 h, q_46 h, q_47 h, q_48 h, q_49 h, q_50 h, ite_self, not_false_eq_true, not_true_eq_false, Nat.reduceEqDiff, reduceIte, true_and, and_true, false_and, and_false, ite_true, ite_false]; first | exact h15 | (intro j; have hj := h15 j; grind [zb, zo, zn, zlt_m1, zlt_0, zlt_1]) | grind [zb] | (funext b; grind [zb]))
  · first
    | exact h16
    | (simp only [F272, F351_0_148, G272, G351_0_148, M31, zup2, zup1, zite2, zite1, upd_r, q_6_0 h, q_41 h, q_42 h, q_43 h, q_44 h, q_45 h, q_46 h, q_47 h, q_48 h, q_49 h, q_50 h, ite_self, not_false_eq_true, not_true_eq_false, Nat.reduceEqDiff, reduceIte, true_and, and_true, false_and, and_false, ite_true, ite_false]; done)
    | (simp only [F272, F351_0_148, G272, G351_0_148, M31, zup2, zup1, zite2, zite1, upd_r, q_6_0 h, q_41 h, q_42 h, q_43 h, q_44 h, q_45 h, q_46 h, q_47 h, q_48 h, q_49 h, q_50 h, ite_self, not_false_eq_true, not_true_eq_false, Nat.reduceEqDiff, reduceIte, true_and, and_true, false_and, and_false, ite_true, ite_false]; first | exact h16 | (intro j; have hj := h16 j; grind [zb, zo, zn, zlt_m1, zlt_0, zlt_1]) | grind [zb] | (funext b; grind [zb]))
  · first
    | exact h17
    | (simp only [F272, F351_0_148, G272, G351_0_148, M31, zup2, zup1, zite2, zite1, upd_r, q_6_0 h, q_41 h, q_42 h, q_43 h, q_44 h, q_45 h, q_46 h, q_47 h, q_48 h, q_49 h, q_50 h, ite_self, not_false_eq_true, not_true_eq_false, Nat.reduceEqDiff, reduceIte, true_and, and_true, false_and, and_false, ite_true, ite_false]; done)
    | (simp only [F272, F351_0_148, G272, G351_0_148, M31, zup2, zup1, zite2, zite1, upd_r, q_6_0 h, q_41 h, q_42 h, q_43 h, q_44 h, q_45 h, q_46 h, q_47 h, q_48 h, q_49 h, q_50 h, ite_self, not_false_eq_true, not_true_eq_false, Nat.reduceEqDiff, reduceIte, true_and, and_true, false_and, and_false, ite_true, ite_false]; first | exact h17 | (intro j; have hj := h17 j; grind [zb, zo, zn, zlt_m1, zlt_0, zlt_1]) | grind [zb] | (funext b; grind [zb]))
