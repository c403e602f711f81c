/-! call 19: the class and the reference answer alike (wip/whole/man/19.txt) -/
theorem zyr19 {n : Nat} {S T : zS} (q1 : Int32) (q2 : Int32) (q3 : Int32) (q4 : Int32) (hn : n < 512) (h : zR n S T) : ((G250 q1 (zb (¬ (q2 = 0))) q3 (zb (¬ (q4 = 0))) T) 13 0) = (F339_0_148 q1 (zb (¬ (q2 = 0))) q3 (zb (¬ (q4 = 0))) S) ∧ ((F339_0_148 q1 (zb (¬ (q2 = 0))) q3 (zb (¬ (q4 = 0))) S) = 0 → ((G339_0_148 q1 (zb (¬ (q2 = 0))) q3 (zb (¬ (q4 = 0))) S) 148 0) = (zb (¬ ((F250 q1 (zb (¬ (q2 = 0))) q3 (zb (¬ (q4 = 0))) T) = 0)))) := by
  have hb := zbit_set
  have h0 := zor_0
  first
  | (simp only [F250, F339_0_148, G250, G339_0_148, zup2, zup1, zite2, zite1, upd_r, q_28 h, q_29 h, ite_self, not_false_eq_true, not_true_eq_false, Nat.reduceEqDiff, reduceIte, true_and, and_true, false_and, and_false, ite_true, ite_false]; done)
  | (simp only [F250, F339_0_148, G250, G339_0_148, zup2, zup1, zite2, zite1, upd_r, q_28 h, q_29 h, ite_self, not_false_eq_true, not_true_eq_false, Nat.reduceEqDiff, reduceIte, true_and, and_true, false_and, and_false, ite_true, ite_false]; grind [zb])
theorem zyt19_Ppl {n : Nat} {S T : zS} (q1 : Int32) (q2 : Int32) (q3 : Int32) (q4 : Int32) (hn : n < 512) (h : zR n S T) : zPpl (G339_0_148 q1 (zb (¬ (q2 = 0))) q3 (zb (¬ (q4 = 0))) S) (M19 q1 q2 q3 q4 T) := by
  have hr := zR_Ppl h
  unfold zPpl at hr ⊢
  obtain ⟨h0, h1, h2, h3, h4, h5, h6⟩ := hr
  have hb := zbit_set
  have h0' := zor_0
  refine ⟨?_, ?_, ?_, ?_, ?_, ?_, ?_⟩
  · first
    | exact h0
    | (simp only [F250, F339_0_148, G250, G339_0_148, M19, zup2, zup1, zite2, zite1, upd_r, q_24 h, q_25 h, q_26 h, q_27 h, q_28 h, q_29 h, ite_self, not_false_eq_true, not_true_eq_false, Nat.reduceEqDiff, reduceIte, true_and, and_true, false_and, and_false, ite_true, ite_false]; done)
    | (simp only [F250, F339_0_148, G250, G339_0_148, M19, zup2, zup1, zite2, zite1, upd_r, q_24 h, q_25 h, q_26 h, q_27 h, q_28 h, q_29 h, ite_self, not_false_eq_true, not_true_eq_false, Nat.reduceEqDiff, reduceIte, true_and, and_true, false_and, and_false, ite_true, ite_false]; first | exact h0 | grind [zb] | (funext b; grind [zb]))
  · first
    | exact h1
    | (simp only [F250, F339_0_148, G250, G339_0_148, M19, zup2, zup1, zite2, zite1, upd_r, q_24 h, q_25 h, q_26 h, q_27 h, q_28 h, q_29 h, ite_self, not_false_eq_true, not_true_eq_false, Nat.reduceEqDiff, reduceIte, true_and, and_true, false_and, and_false, ite_true, ite_false]; done)
    | (simp only [F250, F339_0_148, G250, G339_0_148, M19, zup2, zup1, zite2, zite1, upd_r, q_24 h, q_25 h, q_26 h, q_27 h, q_28 h, q_29 h, ite_self, not_false_eq_true, not_true_eq_false, Nat.reduceEqDiff, reduceIte, true_and, and_true, false_and, and_false, ite_true, ite_false]; first | exact h1 | grind [zb] | (funext b; grind [zb]))
  · first
    | exact h2
    | (simp only [F250, F339_0_148, G250, G339_0_148, M19, zup2, zup1, zite2, zite1, upd_r, q_24 h, q_25 h, q_26 h, q_27 h, q_28 h, q_29 h, ite_self, not_false_eq_true, not_true_eq_false, Nat.reduceEqDiff, reduceIte, true_and, and_true, false_and, and_false, ite_true, ite_false]; done)
    | (simp only [F250, F339_0_148, G250, G339_0_148, M19, zup2, zup1, zite2, zite1, upd_r, q_24 h, q_25 h, q_26 h, q_27 h, q_28 h, q_29 h, ite_self, not_false_eq_true, not_true_eq_false, Nat.reduceEqDiff, reduceIte, true_and, and_true, false_and, and_false, ite_true, ite_false]; first | exact h2 | grind [zb] | (funext b; grind [zb]))
  · first
    | exact h3
    | (simp only [F250, F339_0_148, G250, G339_0_148, M19, zup2, zup1, zite2, zite1, upd_r, q_24 h, q_25 h, q_26 h, q_27 h, q_28 h, q_29 h, ite_self, not_false_eq_true, not_true_eq_false, Nat.reduceEqDiff, reduceIte, true_and, and_true, false_and, and_false, ite_true, ite_false]; done)
    | (simp only [F250, F339_0_148, G250, G339_0_148, M19, zup2, zup1, zite2, zite1, upd_r, q_24 h, q_25 h, q_26 h, q_27 h, q_28 h, q_29 h, ite_self, not_false_eq_true, not_true_eq_false, Nat.reduceEqDiff, reduceIte, true_and, and_true, false_and, and_false, ite_true, ite_false]; first | exact h3 | grind [zb] | (funext b; grind [zb]))
  · first
    | exact h4
    | (simp only [F250, F339_0_148, G250, G339_0_148, M19, zup2, zup1, zite2, zite1, upd_r, q_24 h, q_25 h, q_26 h, q_27 h, q_28 h, q_29 h, ite_self, not_false_eq_true, not_true_eq_false, Nat.reduceEqDiff, reduceIte, true_and, and_true, false_and, and_false, ite_true, ite_false]; done)
    | (simp only [F250, F339_0_148, G250, G339_0_148, M19, zup2, zup1, zite2, zite1, upd_r, q_24 h, q_25 h, q_26 h, q_27 h, q_28 h, q_29 h, ite_self, not_false_eq_true, not_true_eq_false, Nat.reduceEqDiff, reduceIte, true_and, and_true, false_and, and_false, ite_true, ite_false]; first | exact h4 | grind [zb] | (funext b; grind [zb]))
  · first
    | exact h5
    | (simp only [F250, F339_0_148, G250, G339_0_148, M19, zup2, zup1, zite2, zite1, upd_r, q_24 h, q_25 h, q_26 h, q_27 h, q_28 h, q_29 h, ite_self, not_false_eq_true, not_true_eq_false, Nat.reduceEqDiff, reduceIte, true_and, and_true, false_and, and_false, ite_true, ite_false]; done)
    | (simp only [F250, F339_0_148, G250, G339_0_148, M19, zup2, zup1, zite2, zite1, upd_r, q_24 h, q_25 h, q_26 h, q_27 h, q_28 h, q_29 h, ite_self, not_false_eq_true, not_true_eq_false, Nat.reduceEqDiff, reduceIte, true_and, and_true, false_and, and_false, ite_true, ite_false]; first | exact h5 | grind [zb] | (funext b; grind [zb]))
  · first
    | exact h6
    | (simp only [F250, F339_0_148, G250, G339_0_148, M19, zup2, zup1, zite2, zite1, upd_r, q_24 h, q_25 h, q_26 h, q_27 h, q_28 h, q_29 h, ite_self, not_false_eq_true, not_true_eq_false, Nat.reduceEqDiff, reduceIte, true_and, and_true, false_and, and_false, ite_true, ite_false]; done)
    | (simp only [F250, F339_0_148, G250, G339_0_148, M19, zup2, zup1, zite2, zite1, upd_r, q_24 h, q_25 h, q_26 h, q_27 h, q_28 h, q_29 h, ite_self, not_false_eq_true, not_true_eq_false, Nat.reduceEqDiff, reduceIte, true_and, and_true, false_and, and_false, ite_true, ite_false]; first | exact h6 | (intro j; have hj := h6 j; grind [zb, zo, zn, zlt_m1, zlt_0, zlt_1]) | grind [zb] | (funext b; grind [zb]))
