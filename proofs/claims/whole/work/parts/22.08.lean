/-! call 8: the class and the reference answer alike (wip/whole/man/08.txt) -/
theorem zyr8 {n : Nat} {S T : zS} (hn : n < 512) (h : zR n S T) : ((S 2 0) + 1) = (((z_up T 13 0 0) 13 13) + 1) := by
  first
  | (simp only [zup2, zup1, zite2, zite1, upd_r, q_2_0 h, ite_self, not_false_eq_true, not_true_eq_false, Nat.reduceEqDiff, reduceIte, true_and, and_true, false_and, and_false, ite_true, ite_false]; done)
  | (simp only [zup2, zup1, zite2, zite1, upd_r, q_2_0 h, ite_self, not_false_eq_true, not_true_eq_false, Nat.reduceEqDiff, reduceIte, true_and, and_true, false_and, and_false, ite_true, ite_false]; grind [zb])
theorem zyt8_Key {n : Nat} {S T : zS} (hn : n < 512) (h : zR n S T) : zKey (n + 1) (z_up (z_up (z_up S 2 0 ((S 2 0) + 1)) 2 1 0) 2 2 (S 0 11)) (M8  T) := by
  have hr := zKey_up (zR_Key h)
  unfold zKey at hr ⊢
  obtain ⟨h0, h1, h2, h3, h4, h5, h6, h7, h8, h9⟩ := hr
  have hk := i_Key_9 h
  refine ⟨?_, ?_, ?_, ?_, ?_, ?_, ?_, ?_, ?_, ?_⟩
  · first
    | exact h0
    | (simp only [M8, zup2, zup1, zite2, zite1, upd_r, q_2_0 h, q_2_1 h, q_2_2 h, q_2_3 h, q_2_4 h, q_2_5 h, q_0_11 h, ite_self, not_false_eq_true, not_true_eq_false, Nat.reduceEqDiff, reduceIte, true_and, and_true, false_and, and_false, ite_true, ite_false]; done)
    | (simp only [M8, zup2, zup1, zite2, zite1, upd_r, q_2_0 h, q_2_1 h, q_2_2 h, q_2_3 h, q_2_4 h, q_2_5 h, q_0_11 h, ite_self, not_false_eq_true, not_true_eq_false, Nat.reduceEqDiff, reduceIte, true_and, and_true, false_and, and_false, ite_true, ite_false]; first | exact h0 | grind [zb] | (funext b; grind [zb]))
  · first
    | exact h1
    | (simp only [M8, zup2, zup1, zite2, zite1, upd_r, q_2_0 h, q_2_1 h, q_2_2 h, q_2_3 h, q_2_4 h, q_2_5 h, q_0_11 h, ite_self, not_false_eq_true, not_true_eq_false, Nat.reduceEqDiff, reduceIte, true_and, and_true, false_and, and_false, ite_true, ite_false]; done)
    | (simp only [M8, zup2, zup1, zite2, zite1, upd_r, q_2_0 h, q_2_1 h, q_2_2 h, q_2_3 h, q_2_4 h, q_2_5 h, q_0_11 h, ite_self, not_false_eq_true, not_true_eq_false, Nat.reduceEqDiff, reduceIte, true_and, and_true, false_and, and_false, ite_true, ite_false]; first | exact h1 | grind [zb] | (funext b; grind [zb]))
  · first
    | exact h2
    | (simp only [M8, zup2, zup1, zite2, zite1, upd_r, q_2_0 h, q_2_1 h, q_2_2 h, q_2_3 h, q_2_4 h, q_2_5 h, q_0_11 h, ite_self, not_false_eq_true, not_true_eq_false, Nat.reduceEqDiff, reduceIte, true_and, and_true, false_and, and_false, ite_true, ite_false]; done)
    | (simp only [M8, zup2, zup1, zite2, zite1, upd_r, q_2_0 h, q_2_1 h, q_2_2 h, q_2_3 h, q_2_4 h, q_2_5 h, q_0_11 h, ite_self, not_false_eq_true, not_true_eq_false, Nat.reduceEqDiff, reduceIte, true_and, and_true, false_and, and_false, ite_true, ite_false]; first | exact h2 | grind [zb] | (funext b; grind [zb]))
  · first
    | exact h3
    | (simp only [M8, zup2, zup1, zite2, zite1, upd_r, q_2_0 h, q_2_1 h, q_2_2 h, q_2_3 h, q_2_4 h, q_2_5 h, q_0_11 h, ite_self, not_false_eq_true, not_true_eq_false, Nat.reduceEqDiff, reduceIte, true_and, and_true, false_and, and_false, ite_true, ite_false]; done)
    | (simp only [M8, zup2, zup1, zite2, zite1, upd_r, q_2_0 h, q_2_1 h, q_2_2 h, q_2_3 h, q_2_4 h, q_2_5 h, q_0_11 h, ite_self, not_false_eq_true, not_true_eq_false, Nat.reduceEqDiff, reduceIte, true_and, and_true, false_and, and_false, ite_true, ite_false]; first | exact h3 | grind [zb] | (funext b; grind [zb]))
  · first
    | exact h4
    | (simp only [M8, zup2, zup1, zite2, zite1, upd_r, q_2_0 h, q_2_1 h, q_2_2 h, q_2_3 h, q_2_4 h, q_2_5 h, q_0_11 h, ite_self, not_false_eq_true, not_true_eq_false, Nat.reduceEqDiff, reduceIte, true_and, and_true, false_and, and_false, ite_true, ite_false]; done)
    | (simp only [M8, zup2, zup1, zite2, zite1, upd_r, q_2_0 h, q_2_1 h, q_2_2 h, q_2_3 h, q_2_4 h, q_2_5 h, q_0_11 h, ite_self, not_false_eq_true, not_true_eq_false, Nat.reduceEqDiff, reduceIte, true_and, and_true, false_and, and_false, ite_true, ite_false]; first | exact h4 | grind [zb] | (funext b; grind [zb]))
  · first
    | exact h5
    | (simp only [M8, zup2, zup1, zite2, zite1, upd_r, q_2_0 h, q_2_1 h, q_2_2 h, q_2_3 h, q_2_4 h, q_2_5 h, q_0_11 h, ite_self, not_false_eq_true, not_true_eq_false, Nat.reduceEqDiff, reduceIte, true_and, and_true, false_and, and_false, ite_true, ite_false]; done)
    | (simp only [M8, zup2, zup1, zite2, zite1, upd_r, q_2_0 h, q_2_1 h, q_2_2 h, q_2_3 h, q_2_4 h, q_2_5 h, q_0_11 h, ite_self, not_false_eq_true, not_true_eq_false, Nat.reduceEqDiff, reduceIte, true_and, and_true, false_and, and_false, ite_true, ite_false]; first | exact h5 | grind [zb] | (funext b; grind [zb]))
  · first
    | exact h6
    | (simp only [M8, zup2, zup1, zite2, zite1, upd_r, q_2_0 h, q_2_1 h, q_2_2 h, q_2_3 h, q_2_4 h, q_2_5 h, q_0_11 h, ite_self, not_false_eq_true, not_true_eq_false, Nat.reduceEqDiff, reduceIte, true_and, and_true, false_and, and_false, ite_true, ite_false]; done)
    | (simp only [M8, zup2, zup1, zite2, zite1, upd_r, q_2_0 h, q_2_1 h, q_2_2 h, q_2_3 h, q_2_4 h, q_2_5 h, q_0_11 h, ite_self, not_false_eq_true, not_true_eq_false, Nat.reduceEqDiff, reduceIte, true_and, and_true, false_and, and_false, ite_true, ite_false]; first | exact h6 | grind [zb] | (funext b; grind [zb]))
  · first
    | exact h7
    | (simp only [M8, zup2, zup1, zite2, zite1, upd_r, q_2_0 h, q_2_1 h, q_2_2 h, q_2_3 h, q_2_4 h, q_2_5 h, q_0_11 h, ite_self, not_false_eq_true, not_true_eq_false, Nat.reduceEqDiff, reduceIte, true_and, and_true, false_and, and_false, ite_true, ite_false]; done)
    | (simp only [M8, zup2, zup1, zite2, zite1, upd_r, q_2_0 h, q_2_1 h, q_2_2 h, q_2_3 h, q_2_4 h, q_2_5 h, q_0_11 h, ite_self, not_false_eq_true, not_true_eq_false, Nat.reduceEqDiff, reduceIte, true_and, and_true, false_and, and_false, ite_true, ite_false]; first | exact h7 | grind [zb] | (funext b; grind [zb]))
  · simp only [M8, zup2, zup1, zite2, zite1, upd_r, q_2_0 h, q_2_1 h, q_2_2 h, q_2_3 h, q_2_4 h, q_2_5 h, q_0_11 h, ite_self, not_false_eq_true, not_true_eq_false, Nat.reduceEqDiff, reduceIte, true_and, and_true, false_and, and_false, ite_true, ite_false]
    rw [zk_tadd (by rw [zk_1]; omega) (by rw [zk_1]; omega), zk_1]; omega
  · simp only [M8, zup2, zup1, zite2, zite1, upd_r, q_2_0 h, q_2_1 h, q_2_2 h, q_2_3 h, q_2_4 h, q_2_5 h, q_0_11 h, ite_self, not_false_eq_true, not_true_eq_false, Nat.reduceEqDiff, reduceIte, true_and, and_true, false_and, and_false, ite_true, ite_false]
    rw [zk_tadd (by rw [zk_1]; omega) (by rw [zk_1]; omega), zk_1]; omega
