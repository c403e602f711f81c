/-! call 17: the class and the reference answer alike (wip/whole/man/17.txt) -/
theorem zyr17 {n : Nat} {S T : zS} (q1 : Int32) (q2 : Int32) (q3 : Int32) (h : zR n S T) : ((G248 q1 q2 q3 T) 13 0) = (F337_0_148 q1 q2 q3 S) ∧ ((F337_0_148 q1 q2 q3 S) = 0 → ((G337_0_148 q1 q2 q3 S) 148 0) = (F248 q1 q2 q3 T)) := by
  first
  | (simp only [F248, F337_0_148, G248, G337_0_148, zup2, zup1, zite2, zite1, upd_r, Int32.mul_comm 6 q1, zb_0, Decidable.not_not, q_24 h, ite_self, not_false_eq_true, not_true_eq_false, Nat.reduceEqDiff, reduceIte, true_and, and_true, false_and, and_false, ite_true, ite_false]; done)
  | (simp only [F248, F337_0_148, G248, G337_0_148, zup2, zup1, zite2, zite1, upd_r, Int32.mul_comm 6 q1, zb_0, Decidable.not_not, q_24 h, ite_self, not_false_eq_true, not_true_eq_false, Nat.reduceEqDiff, reduceIte, true_and, and_true, false_and, and_false, ite_true, ite_false]; grind [zb])
theorem zyt17_Ppl {n : Nat} {S T : zS} (q1 : Int32) (q2 : Int32) (q3 : Int32) (hn : n < 512) (h : zR n S T) : zPpl (G337_0_148 q1 q2 q3 S) (M17 q1 q2 q3 T) := by
  have hr := zR_Ppl h
  unfold zPpl at hr ⊢
  obtain ⟨h0, h1, h2, h3, h4, h5, h6⟩ := hr
  refine ⟨?_, ?_, ?_, ?_, ?_, ?_, ?_⟩
  · first
    | exact h0
    | (simp only [F248, F337_0_148, G248, G337_0_148, M17, zup2, zup1, zite2, zite1, upd_r, Int32.mul_comm 6 q1, zb_0, Decidable.not_not, q_24 h, q_25 h, q_26 h, q_27 h, q_28 h, q_29 h, ite_self, not_false_eq_true, not_true_eq_false, Nat.reduceEqDiff, reduceIte, true_and, and_true, false_and, and_false, ite_true, ite_false]; done)
    | (simp only [F248, F337_0_148, G248, G337_0_148, M17, zup2, zup1, zite2, zite1, upd_r, Int32.mul_comm 6 q1, zb_0, Decidable.not_not, q_24 h, q_25 h, q_26 h, q_27 h, q_28 h, q_29 h, ite_self, not_false_eq_true, not_true_eq_false, Nat.reduceEqDiff, reduceIte, true_and, and_true, false_and, and_false, ite_true, ite_false]; first | exact h0 | grind [zb] | (funext b; grind [zb]))
  · first
    | exact h1
    | (simp only [F248, F337_0_148, G248, G337_0_148, M17, zup2, zup1, zite2, zite1, upd_r, Int32.mul_comm 6 q1, zb_0, Decidable.not_not, q_24 h, q_25 h, q_26 h, q_27 h, q_28 h, q_29 h, ite_self, not_false_eq_true, not_true_eq_false, Nat.reduceEqDiff, reduceIte, true_and, and_true, false_and, and_false, ite_true, ite_false]; done)
    | (simp only [F248, F337_0_148, G248, G337_0_148, M17, zup2, zup1, zite2, zite1, upd_r, Int32.mul_comm 6 q1, zb_0, Decidable.not_not, q_24 h, q_25 h, q_26 h, q_27 h, q_28 h, q_29 h, ite_self, not_false_eq_true, not_true_eq_false, Nat.reduceEqDiff, reduceIte, true_and, and_true, false_and, and_false, ite_true, ite_false]; first | exact h1 | grind [zb] | (funext b; grind [zb]))
  · first
    | exact h2
    | (simp only [F248, F337_0_148, G248, G337_0_148, M17, zup2, zup1, zite2, zite1, upd_r, Int32.mul_comm 6 q1, zb_0, Decidable.not_not, q_24 h, q_25 h, q_26 h, q_27 h, q_28 h, q_29 h, ite_self, not_false_eq_true, not_true_eq_false, Nat.reduceEqDiff, reduceIte, true_and, and_true, false_and, and_false, ite_true, ite_false]; done)
    | (simp only [F248, F337_0_148, G248, G337_0_148, M17, zup2, zup1, zite2, zite1, upd_r, Int32.mul_comm 6 q1, zb_0, Decidable.not_not, q_24 h, q_25 h, q_26 h, q_27 h, q_28 h, q_29 h, ite_self, not_false_eq_true, not_true_eq_false, Nat.reduceEqDiff, reduceIte, true_and, and_true, false_and, and_false, ite_true, ite_false]; first | exact h2 | grind [zb] | (funext b; grind [zb]))
  · first
    | exact h3
    | (simp only [F248, F337_0_148, G248, G337_0_148, M17, zup2, zup1, zite2, zite1, upd_r, Int32.mul_comm 6 q1, zb_0, Decidable.not_not, q_24 h, q_25 h, q_26 h, q_27 h, q_28 h, q_29 h, ite_self, not_false_eq_true, not_true_eq_false, Nat.reduceEqDiff, reduceIte, true_and, and_true, false_and, and_false, ite_true, ite_false]; done)
    | (simp only [F248, F337_0_148, G248, G337_0_148, M17, zup2, zup1, zite2, zite1, upd_r, Int32.mul_comm 6 q1, zb_0, Decidable.not_not, q_24 h, q_25 h, q_26 h, q_27 h, q_28 h, q_29 h, ite_self, not_false_eq_true, not_true_eq_false, Nat.reduceEqDiff, reduceIte, true_and, and_true, false_and, and_false, ite_true, ite_false]; first | exact h3 | grind [zb] | (funext b; grind [zb]))
  · first
    | exact h4
    | (simp only [F248, F337_0_148, G248, G337_0_148, M17, zup2, zup1, zite2, zite1, upd_r, Int32.mul_comm 6 q1, zb_0, Decidable.not_not, q_24 h, q_25 h, q_26 h, q_27 h, q_28 h, q_29 h, ite_self, not_false_eq_true, not_true_eq_false, Nat.reduceEqDiff, reduceIte, true_and, and_true, false_and, and_false, ite_true, ite_false]; done)
    | (simp only [F248, F337_0_148, G248, G337_0_148, M17, zup2, zup1, zite2, zite1, upd_r, Int32.mul_comm 6 q1, zb_0, Decidable.not_not, q_24 h, q_25 h, q_26 h, q_27 h, q_28 h, q_29 h, ite_self, not_false_eq_true, not_true_eq_false, Nat.reduceEqDiff, reduceIte, true_and, and_true, false_and, and_false, ite_true, ite_false]; first | exact h4 | grind [zb] | (funext b; grind [zb]))
  · first
    | exact h5
    | (simp only [F248, F337_0_148, G248, G337_0_148, M17, zup2, zup1, zite2, zite1, upd_r, Int32.mul_comm 6 q1, zb_0, Decidable.not_not, q_24 h, q_25 h, q_26 h, q_27 h, q_28 h, q_29 h, ite_self, not_false_eq_true, not_true_eq_false, Nat.reduceEqDiff, reduceIte, true_and, and_true, false_and, and_false, ite_true, ite_false]; done)
    | (simp only [F248, F337_0_148, G248, G337_0_148, M17, zup2, zup1, zite2, zite1, upd_r, Int32.mul_comm 6 q1, zb_0, Decidable.not_not, q_24 h, q_25 h, q_26 h, q_27 h, q_28 h, q_29 h, ite_self, not_false_eq_true, not_true_eq_false, Nat.reduceEqDiff, reduceIte, true_and, and_true, false_and, and_false, ite_true, ite_false]; first | exact h5 | grind [zb] | (funext b; grind [zb]))
  · simp only [F248, F337_0_148, G248, G337_0_148, M17, zup2, zup1, zite2, zite1, upd_r, Int32.mul_comm 6 q1, zb_0, Decidable.not_not, q_24 h, q_25 h, q_26 h, q_27 h, q_28 h, q_29 h, ite_self, not_false_eq_true, not_true_eq_false, Nat.reduceEqDiff, reduceIte, true_and, and_true, false_and, and_false, ite_true, ite_false]
    intro j hj; have hk := h6 j hj; clear h6; simp only [zk_lt, zk_le, zlt_m1, zlt_0, zlt_1, zlt_2, zlt_3, zlt_4, zlt_5, zlt_6, zlt_7, zlt_8, zlt_9, zlt_10, zlt_15, zlt_16, zlt_20, zlt_24, zlt_30, zlt_36, zlt_39, zlt_40, zlt_50, zlt_72, zlt_100, zlt_199, zlt_200, zlt_215, zlt_216, zlt_255, zlt_256, zlt_1000, zlt_9999, zlt_65535, zlt_1000000000]; grind [zb, zlt_m1]
