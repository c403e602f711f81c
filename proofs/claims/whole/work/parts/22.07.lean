/-! call 7: the class and the reference answer alike (wip/whole/man/07.txt) -/
theorem zyr7 {n : Nat} {S T : zS} (q1 : Int32) (q2 : Int32) (hn : n < 512) (h : zR n S T) : ((G230 q1 q2 T) 13 0) = (F329_0 q1 q2 S) := by
  first
  | (simp only [F329_0, G230, G329_0, zup2, zup1, zite2, zite1, upd_r, q_2_4 h, ite_self, not_false_eq_true, not_true_eq_false, Nat.reduceEqDiff, reduceIte, true_and, and_true, false_and, and_false, ite_true, ite_false]; done)
  | (simp only [F329_0, G230, G329_0, zup2, zup1, zite2, zite1, upd_r, q_2_4 h, ite_self, not_false_eq_true, not_true_eq_false, Nat.reduceEqDiff, reduceIte, true_and, and_true, false_and, and_false, ite_true, ite_false]; grind [zb])
theorem zyt7_Key {n : Nat} {S T : zS} (q1 : Int32) (q2 : Int32) (hn : n < 512) (h : zR n S T) : zKey (n + 1) (G329_0 q1 q2 S) (M7 q1 q2 T) := by
  have hr := zKey_up (zR_Key h)
  unfold zKey at hr ⊢
  obtain ⟨h0, h1, h2, h3, h4, h5, h6, h7, h8, h9⟩ := hr
  refine ⟨?_, ?_, ?_, ?_, ?_, ?_, ?_, ?_, ?_, ?_⟩
  · first
    | exact h0
    | (simp only [F329_0, G230, G329_0, M7, zup2, zup1, zite2, zite1, upd_r, q_2_0 h, q_2_1 h, q_2_2 h, q_2_3 h, q_2_4 h, q_2_5 h, q_0_11 h, ite_self, not_false_eq_true, not_true_eq_false, Nat.reduceEqDiff, reduceIte, true_and, and_true, false_and, and_false, ite_true, ite_false]; done)
    | (simp only [F329_0, G230, G329_0, M7, zup2, zup1, zite2, zite1, upd_r, q_2_0 h, q_2_1 h, q_2_2 h, q_2_3 h, q_2_4 h, q_2_5 h, q_0_11 h, ite_self, not_false_eq_true, not_true_eq_false, Nat.reduceEqDiff, reduceIte, true_and, and_true, false_and, and_false, ite_true, ite_false]; first | exact h0 | grind [zb] | (funext b; grind [zb]))
  · first
    | exact h1
    | (simp only [F329_0, G230, G329_0, M7, zup2, zup1, zite2, zite1, upd_r, q_2_0 h, q_2_1 h, q_2_2 h, q_2_3 h, q_2_4 h, q_2_5 h, q_0_11 h, ite_self, not_false_eq_true, not_true_eq_false, Nat.reduceEqDiff, reduceIte, true_and, and_true, false_and, and_false, ite_true, ite_false]; done)
    | (simp only [F329_0, G230, G329_0, M7, zup2, zup1, zite2, zite1, upd_r, q_2_0 h, q_2_1 h, q_2_2 h, q_2_3 h, q_2_4 h, q_2_5 h, q_0_11 h, ite_self, not_false_eq_true, not_true_eq_false, Nat.reduceEqDiff, reduceIte, true_and, and_true, false_and, and_false, ite_true, ite_false]; first | exact h1 | grind [zb] | (funext b; grind [zb]))
  · first
    | exact h2
    | (simp only [F329_0, G230, G329_0, M7, zup2, zup1, zite2, zite1, upd_r, q_2_0 h, q_2_1 h, q_2_2 h, q_2_3 h, q_2_4 h, q_2_5 h, q_0_11 h, ite_self, not_false_eq_true, not_true_eq_false, Nat.reduceEqDiff, reduceIte, true_and, and_true, false_and, and_false, ite_true, ite_false]; done)
    | (simp only [F329_0, G230, G329_0, M7, zup2, zup1, zite2, zite1, upd_r, q_2_0 h, q_2_1 h, q_2_2 h, q_2_3 h, q_2_4 h, q_2_5 h, q_0_11 h, ite_self, not_false_eq_true, not_true_eq_false, Nat.reduceEqDiff, reduceIte, true_and, and_true, false_and, and_false, ite_true, ite_false]; first | exact h2 | grind [zb] | (funext b; grind [zb]))
  · first
    | exact h3
    | (simp only [F329_0, G230, G329_0, M7, zup2, zup1, zite2, zite1, upd_r, q_2_0 h, q_2_1 h, q_2_2 h, q_2_3 h, q_2_4 h, q_2_5 h, q_0_11 h, ite_self, not_false_eq_true, not_true_eq_false, Nat.reduceEqDiff, reduceIte, true_and, and_true, false_and, and_false, ite_true, ite_false]; done)
    | (simp only [F329_0, G230, G329_0, M7, zup2, zup1, zite2, zite1, upd_r, q_2_0 h, q_2_1 h, q_2_2 h, q_2_3 h, q_2_4 h, q_2_5 h, q_0_11 h, ite_self, not_false_eq_true, not_true_eq_false, Nat.reduceEqDiff, reduceIte, true_and, and_true, false_and, and_false, ite_true, ite_false]; first | exact h3 | grind [zb] | (funext b; grind [zb]))
  · first
    | exact h4
    | (simp only [F329_0, G230, G329_0, M7, zup2, zup1, zite2, zite1, upd_r, q_2_0 h, q_2_1 h, q_2_2 h, q_2_3 h, q_2_4 h, q_2_5 h, q_0_11 h, ite_self, not_false_eq_true, not_true_eq_false, Nat.reduceEqDiff, reduceIte, true_and, and_true, false_and, and_false, ite_true, ite_false]; done)
    | (simp only [F329_0, G230, G329_0, M7, zup2, zup1, zite2, zite1, upd_r, q_2_0 h, q_2_1 h, q_2_2 h, q_2_3 h, q_2_4 h, q_2_5 h, q_0_11 h, ite_self, not_false_eq_true, not_true_eq_false, Nat.reduceEqDiff, reduceIte, true_and, and_true, false_and, and_false, ite_true, ite_false]; first | exact h4 | grind [zb] | (funext b; grind [zb]))
  · first
    | exact h5
    | (simp only [F329_0, G230, G329_0, M7, zup2, zup1, zite2, zite1, upd_r, q_2_0 h, q_2_1 h, q_2_2 h, q_2_3 h, q_2_4 h, q_2_5 h, q_0_11 h, ite_self, not_false_eq_true, not_true_eq_false, Nat.reduceEqDiff, reduceIte, true_and, and_true, false_and, and_false, ite_true, ite_false]; done)
    | (simp only [F329_0, G230, G329_0, M7, zup2, zup1, zite2, zite1, upd_r, q_2_0 h, q_2_1 h, q_2_2 h, q_2_3 h, q_2_4 h, q_2_5 h, q_0_11 h, ite_self, not_false_eq_true, not_true_eq_false, Nat.reduceEqDiff, reduceIte, true_and, and_true, false_and, and_false, ite_true, ite_false]; first | exact h5 | grind [zb] | (funext b; grind [zb]))
  · first
    | exact h6
    | (simp only [F329_0, G230, G329_0, M7, zup2, zup1, zite2, zite1, upd_r, q_2_0 h, q_2_1 h, q_2_2 h, q_2_3 h, q_2_4 h, q_2_5 h, q_0_11 h, ite_self, not_false_eq_true, not_true_eq_false, Nat.reduceEqDiff, reduceIte, true_and, and_true, false_and, and_false, ite_true, ite_false]; done)
    | (simp only [F329_0, G230, G329_0, M7, zup2, zup1, zite2, zite1, upd_r, q_2_0 h, q_2_1 h, q_2_2 h, q_2_3 h, q_2_4 h, q_2_5 h, q_0_11 h, ite_self, not_false_eq_true, not_true_eq_false, Nat.reduceEqDiff, reduceIte, true_and, and_true, false_and, and_false, ite_true, ite_false]; first | exact h6 | grind [zb] | (funext b; grind [zb]))
  · first
    | exact h7
    | (simp only [F329_0, G230, G329_0, M7, zup2, zup1, zite2, zite1, upd_r, q_2_0 h, q_2_1 h, q_2_2 h, q_2_3 h, q_2_4 h, q_2_5 h, q_0_11 h, ite_self, not_false_eq_true, not_true_eq_false, Nat.reduceEqDiff, reduceIte, true_and, and_true, false_and, and_false, ite_true, ite_false]; done)
    | (simp only [F329_0, G230, G329_0, M7, zup2, zup1, zite2, zite1, upd_r, q_2_0 h, q_2_1 h, q_2_2 h, q_2_3 h, q_2_4 h, q_2_5 h, q_0_11 h, ite_self, not_false_eq_true, not_true_eq_false, Nat.reduceEqDiff, reduceIte, true_and, and_true, false_and, and_false, ite_true, ite_false]; first | exact h7 | grind [zb] | (funext b; grind [zb]))
  · first
    | exact h8
    | (simp only [F329_0, G230, G329_0, M7, zup2, zup1, zite2, zite1, upd_r, q_2_0 h, q_2_1 h, q_2_2 h, q_2_3 h, q_2_4 h, q_2_5 h, q_0_11 h, ite_self, not_false_eq_true, not_true_eq_false, Nat.reduceEqDiff, reduceIte, true_and, and_true, false_and, and_false, ite_true, ite_false]; done)
    | (simp only [F329_0, G230, G329_0, M7, zup2, zup1, zite2, zite1, upd_r, q_2_0 h, q_2_1 h, q_2_2 h, q_2_3 h, q_2_4 h, q_2_5 h, q_0_11 h, ite_self, not_false_eq_true, not_true_eq_false, Nat.reduceEqDiff, reduceIte, true_and, and_true, false_and, and_false, ite_true, ite_false]; first | exact h8 | grind [zb] | (funext b; grind [zb]))
  · first
    | exact h9
    | (simp only [F329_0, G230, G329_0, M7, zup2, zup1, zite2, zite1, upd_r, q_2_0 h, q_2_1 h, q_2_2 h, q_2_3 h, q_2_4 h, q_2_5 h, q_0_11 h, ite_self, not_false_eq_true, not_true_eq_false, Nat.reduceEqDiff, reduceIte, true_and, and_true, false_and, and_false, ite_true, ite_false]; done)
    | (simp only [F329_0, G230, G329_0, M7, zup2, zup1, zite2, zite1, upd_r, q_2_0 h, q_2_1 h, q_2_2 h, q_2_3 h, q_2_4 h, q_2_5 h, q_0_11 h, ite_self, not_false_eq_true, not_true_eq_false, Nat.reduceEqDiff, reduceIte, true_and, and_true, false_and, and_false, ite_true, ite_false]; first | exact h9 | grind [zb] | (funext b; grind [zb]))
