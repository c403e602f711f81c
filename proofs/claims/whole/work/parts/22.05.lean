/-! call 5: the class and the reference answer alike (wip/whole/man/05.txt) -/
theorem zyr5 {n : Nat} {S T : zS} (q1 : Int32) (q2 : Int32) (q3 : Int32) (hn : n < 512) (h : zR n S T) : ((G226 q1 q2 q3 T) 13 0) = (F327_0 q1 q2 q3 S) := by
  first
  | (simp only [F327_0, G226, G327_0, zup2, zup1, zite2, zite1, upd_r, K95_1, K95_r, K214_1, K214_r, q_1_6 h, ite_self, not_false_eq_true, not_true_eq_false, Nat.reduceEqDiff, reduceIte, true_and, and_true, false_and, and_false, ite_true, ite_false]; done)
  | (simp only [F327_0, G226, G327_0, zup2, zup1, zite2, zite1, upd_r, K95_1, K95_r, K214_1, K214_r, q_1_6 h, ite_self, not_false_eq_true, not_true_eq_false, Nat.reduceEqDiff, reduceIte, true_and, and_true, false_and, and_false, ite_true, ite_false]; grind [zb])
theorem zyt5_Seal {n : Nat} {S T : zS} (q1 : Int32) (q2 : Int32) (q3 : Int32) (hn : n < 512) (h : zR n S T) : zSeal (G327_0 q1 q2 q3 S) (M5 q1 q2 q3 T) := by
  have hr := zR_Seal h
  unfold zSeal at hr ⊢
  obtain ⟨h0, h1, h2, h3, h4, h5, h6, h7, h8, h9, h10, h11, h12, h13, h14, h15, h16, h17, h18, h19, h20⟩ := hr
  have hcl := zSeal_cl h
  refine ⟨?_, ?_, ?_, ?_, ?_, ?_, ?_, ?_, ?_, ?_, ?_, ?_, ?_, ?_, ?_, ?_, ?_, ?_, ?_, ?_, ?_⟩
  · first
    | exact h0
    | (simp only [F327_0, G226, G327_0, M5, zup2, zup1, zite2, zite1, upd_r, K95_1, K95_r, K214_1, K214_r, (zSeal_cl h).1, (zSeal_cl h).2.1, (zSeal_cl h).2.2, q_1_0 h, q_1_1 h, q_1_2 h, q_1_6 h, q_1_7 h, q_1_8 h, q_1_9 h, q_1_10 h, q_14 h, ite_self, not_false_eq_true, not_true_eq_false, Nat.reduceEqDiff, reduceIte, true_and, and_true, false_and, and_false, ite_true, ite_false]; done)
    | (simp only [F327_0, G226, G327_0, M5, zup2, zup1, zite2, zite1, upd_r, K95_1, K95_r, K214_1, K214_r, (zSeal_cl h).1, (zSeal_cl h).2.1, (zSeal_cl h).2.2, q_1_0 h, q_1_1 h, q_1_2 h, q_1_6 h, q_1_7 h, q_1_8 h, q_1_9 h, q_1_10 h, q_14 h, ite_self, not_false_eq_true, not_true_eq_false, Nat.reduceEqDiff, reduceIte, true_and, and_true, false_and, and_false, ite_true, ite_false]; first | exact h0 | grind [zb] | (funext b; grind [zb]))
  · first
    | exact h1
    | (simp only [F327_0, G226, G327_0, M5, zup2, zup1, zite2, zite1, upd_r, K95_1, K95_r, K214_1, K214_r, (zSeal_cl h).1, (zSeal_cl h).2.1, (zSeal_cl h).2.2, q_1_0 h, q_1_1 h, q_1_2 h, q_1_6 h, q_1_7 h, q_1_8 h, q_1_9 h, q_1_10 h, q_14 h, ite_self, not_false_eq_true, not_true_eq_false, Nat.reduceEqDiff, reduceIte, true_and, and_true, false_and, and_false, ite_true, ite_false]; done)
    | (simp only [F327_0, G226, G327_0, M5, zup2, zup1, zite2, zite1, upd_r, K95_1, K95_r, K214_1, K214_r, (zSeal_cl h).1, (zSeal_cl h).2.1, (zSeal_cl h).2.2, q_1_0 h, q_1_1 h, q_1_2 h, q_1_6 h, q_1_7 h, q_1_8 h, q_1_9 h, q_1_10 h, q_14 h, ite_self, not_false_eq_true, not_true_eq_false, Nat.reduceEqDiff, reduceIte, true_and, and_true, false_and, and_false, ite_true, ite_false]; first | exact h1 | grind [zb] | (funext b; grind [zb]))
  · first
    | exact h2
    | (simp only [F327_0, G226, G327_0, M5, zup2, zup1, zite2, zite1, upd_r, K95_1, K95_r, K214_1, K214_r, (zSeal_cl h).1, (zSeal_cl h).2.1, (zSeal_cl h).2.2, q_1_0 h, q_1_1 h, q_1_2 h, q_1_6 h, q_1_7 h, q_1_8 h, q_1_9 h, q_1_10 h, q_14 h, ite_self, not_false_eq_true, not_true_eq_false, Nat.reduceEqDiff, reduceIte, true_and, and_true, false_and, and_false, ite_true, ite_false]; done)
    | (simp only [F327_0, G226, G327_0, M5, zup2, zup1, zite2, zite1, upd_r, K95_1, K95_r, K214_1, K214_r, (zSeal_cl h).1, (zSeal_cl h).2.1, (zSeal_cl h).2.2, q_1_0 h, q_1_1 h, q_1_2 h, q_1_6 h, q_1_7 h, q_1_8 h, q_1_9 h, q_1_10 h, q_14 h, ite_self, not_false_eq_true, not_true_eq_false, Nat.reduceEqDiff, reduceIte, true_and, and_true, false_and, and_false, ite_true, ite_false]; first | exact h2 | grind [zb] | (funext b; grind [zb]))
  · first
    | exact h3
    | (simp only [F327_0, G226, G327_0, M5, zup2, zup1, zite2, zite1, upd_r, K95_1, K95_r, K214_1, K214_r, (zSeal_cl h).1, (zSeal_cl h).2.1, (zSeal_cl h).2.2, q_1_0 h, q_1_1 h, q_1_2 h, q_1_6 h, q_1_7 h, q_1_8 h, q_1_9 h, q_1_10 h, q_14 h, ite_self, not_false_eq_true, not_true_eq_false, Nat.reduceEqDiff, reduceIte, true_and, and_true, false_and, and_false, ite_true, ite_false]; done)
    | (simp only [F327_0, G226, G327_0, M5, zup2, zup1, zite2, zite1, upd_r, K95_1, K95_r, K214_1, K214_r, (zSeal_cl h).1, (zSeal_cl h).2.1, (zSeal_cl h).2.2, q_1_0 h, q_1_1 h, q_1_2 h, q_1_6 h, q_1_7 h, q_1_8 h, q_1_9 h, q_1_10 h, q_14 h, ite_self, not_false_eq_true, not_true_eq_false, Nat.reduceEqDiff, reduceIte, true_and, and_true, false_and, and_false, ite_true, ite_false]; first | exact h3 | grind [zb] | (funext b; grind [zb]))
  · first
    | exact h4
    | (simp only [F327_0, G226, G327_0, M5, zup2, zup1, zite2, zite1, upd_r, K95_1, K95_r, K214_1, K214_r, (zSeal_cl h).1, (zSeal_cl h).2.1, (zSeal_cl h).2.2, q_1_0 h, q_1_1 h, q_1_2 h, q_1_6 h, q_1_7 h, q_1_8 h, q_1_9 h, q_1_10 h, q_14 h, ite_self, not_false_eq_true, not_true_eq_false, Nat.reduceEqDiff, reduceIte, true_and, and_true, false_and, and_false, ite_true, ite_false]; done)
    | (simp only [F327_0, G226, G327_0, M5, zup2, zup1, zite2, zite1, upd_r, K95_1, K95_r, K214_1, K214_r, (zSeal_cl h).1, (zSeal_cl h).2.1, (zSeal_cl h).2.2, q_1_0 h, q_1_1 h, q_1_2 h, q_1_6 h, q_1_7 h, q_1_8 h, q_1_9 h, q_1_10 h, q_14 h, ite_self, not_false_eq_true, not_true_eq_false, Nat.reduceEqDiff, reduceIte, true_and, and_true, false_and, and_false, ite_true, ite_false]; first | exact h4 | grind [zb] | (funext b; grind [zb]))
  · first
    | exact h5
    | (simp only [F327_0, G226, G327_0, M5, zup2, zup1, zite2, zite1, upd_r, K95_1, K95_r, K214_1, K214_r, (zSeal_cl h).1, (zSeal_cl h).2.1, (zSeal_cl h).2.2, q_1_0 h, q_1_1 h, q_1_2 h, q_1_6 h, q_1_7 h, q_1_8 h, q_1_9 h, q_1_10 h, q_14 h, ite_self, not_false_eq_true, not_true_eq_false, Nat.reduceEqDiff, reduceIte, true_and, and_true, false_and, and_false, ite_true, ite_false]; done)
    | (simp only [F327_0, G226, G327_0, M5, zup2, zup1, zite2, zite1, upd_r, K95_1, K95_r, K214_1, K214_r, (zSeal_cl h).1, (zSeal_cl h).2.1, (zSeal_cl h).2.2, q_1_0 h, q_1_1 h, q_1_2 h, q_1_6 h, q_1_7 h, q_1_8 h, q_1_9 h, q_1_10 h, q_14 h, ite_self, not_false_eq_true, not_true_eq_false, Nat.reduceEqDiff, reduceIte, true_and, and_true, false_and, and_false, ite_true, ite_false]; first | exact h5 | grind [zb] | (funext b; grind [zb]))
  · first
    | exact h6
    | (simp only [F327_0, G226, G327_0, M5, zup2, zup1, zite2, zite1, upd_r, K95_1, K95_r, K214_1, K214_r, (zSeal_cl h).1, (zSeal_cl h).2.1, (zSeal_cl h).2.2, q_1_0 h, q_1_1 h, q_1_2 h, q_1_6 h, q_1_7 h, q_1_8 h, q_1_9 h, q_1_10 h, q_14 h, ite_self, not_false_eq_true, not_true_eq_false, Nat.reduceEqDiff, reduceIte, true_and, and_true, false_and, and_false, ite_true, ite_false]; done)
    | (simp only [F327_0, G226, G327_0, M5, zup2, zup1, zite2, zite1, upd_r, K95_1, K95_r, K214_1, K214_r, (zSeal_cl h).1, (zSeal_cl h).2.1, (zSeal_cl h).2.2, q_1_0 h, q_1_1 h, q_1_2 h, q_1_6 h, q_1_7 h, q_1_8 h, q_1_9 h, q_1_10 h, q_14 h, ite_self, not_false_eq_true, not_true_eq_false, Nat.reduceEqDiff, reduceIte, true_and, and_true, false_and, and_false, ite_true, ite_false]; first | exact h6 | grind [zb] | (funext b; grind [zb]))
  · first
    | exact h7
    | (simp only [F327_0, G226, G327_0, M5, zup2, zup1, zite2, zite1, upd_r, K95_1, K95_r, K214_1, K214_r, (zSeal_cl h).1, (zSeal_cl h).2.1, (zSeal_cl h).2.2, q_1_0 h, q_1_1 h, q_1_2 h, q_1_6 h, q_1_7 h, q_1_8 h, q_1_9 h, q_1_10 h, q_14 h, ite_self, not_false_eq_true, not_true_eq_false, Nat.reduceEqDiff, reduceIte, true_and, and_true, false_and, and_false, ite_true, ite_false]; done)
    | (simp only [F327_0, G226, G327_0, M5, zup2, zup1, zite2, zite1, upd_r, K95_1, K95_r, K214_1, K214_r, (zSeal_cl h).1, (zSeal_cl h).2.1, (zSeal_cl h).2.2, q_1_0 h, q_1_1 h, q_1_2 h, q_1_6 h, q_1_7 h, q_1_8 h, q_1_9 h, q_1_10 h, q_14 h, ite_self, not_false_eq_true, not_true_eq_false, Nat.reduceEqDiff, reduceIte, true_and, and_true, false_and, and_false, ite_true, ite_false]; first | exact h7 | grind [zb] | (funext b; grind [zb]))
  · first
    | exact h8
    | (simp only [F327_0, G226, G327_0, M5, zup2, zup1, zite2, zite1, upd_r, K95_1, K95_r, K214_1, K214_r, (zSeal_cl h).1, (zSeal_cl h).2.1, (zSeal_cl h).2.2, q_1_0 h, q_1_1 h, q_1_2 h, q_1_6 h, q_1_7 h, q_1_8 h, q_1_9 h, q_1_10 h, q_14 h, ite_self, not_false_eq_true, not_true_eq_false, Nat.reduceEqDiff, reduceIte, true_and, and_true, false_and, and_false, ite_true, ite_false]; done)
    | (simp only [F327_0, G226, G327_0, M5, zup2, zup1, zite2, zite1, upd_r, K95_1, K95_r, K214_1, K214_r, (zSeal_cl h).1, (zSeal_cl h).2.1, (zSeal_cl h).2.2, q_1_0 h, q_1_1 h, q_1_2 h, q_1_6 h, q_1_7 h, q_1_8 h, q_1_9 h, q_1_10 h, q_14 h, ite_self, not_false_eq_true, not_true_eq_false, Nat.reduceEqDiff, reduceIte, true_and, and_true, false_and, and_false, ite_true, ite_false]; first | exact h8 | grind [zb] | (funext b; grind [zb]))
  · simp only [F327_0, G226, G327_0, M5, zup2, zup1, zite2, zite1, upd_r, K95_1, K95_r, K214_1, K214_r, (zSeal_cl h).1, (zSeal_cl h).2.1, (zSeal_cl h).2.2, q_1_0 h, q_1_1 h, q_1_2 h, q_1_6 h, q_1_7 h, q_1_8 h, q_1_9 h, q_1_10 h, q_14 h, ite_self, not_false_eq_true, not_true_eq_false, Nat.reduceEqDiff, reduceIte, true_and, and_true, false_and, and_false, ite_true, ite_false]
    grind
  · simp only [F327_0, G226, G327_0, M5, zup2, zup1, zite2, zite1, upd_r, K95_1, K95_r, K214_1, K214_r, (zSeal_cl h).1, (zSeal_cl h).2.1, (zSeal_cl h).2.2, q_1_0 h, q_1_1 h, q_1_2 h, q_1_6 h, q_1_7 h, q_1_8 h, q_1_9 h, q_1_10 h, q_14 h, ite_self, not_false_eq_true, not_true_eq_false, Nat.reduceEqDiff, reduceIte, true_and, and_true, false_and, and_false, ite_true, ite_false]
    grind
  · simp only [F327_0, G226, G327_0, M5, zup2, zup1, zite2, zite1, upd_r, K95_1, K95_r, K214_1, K214_r, (zSeal_cl h).1, (zSeal_cl h).2.1, (zSeal_cl h).2.2, q_1_0 h, q_1_1 h, q_1_2 h, q_1_6 h, q_1_7 h, q_1_8 h, q_1_9 h, q_1_10 h, q_14 h, ite_self, not_false_eq_true, not_true_eq_false, Nat.reduceEqDiff, reduceIte, true_and, and_true, false_and, and_false, ite_true, ite_false]
    grind [zCnt_no]
  · simp only [F327_0, G226, G327_0, M5, zup2, zup1, zite2, zite1, upd_r, K95_1, K95_r, K214_1, K214_r, (zSeal_cl h).1, (zSeal_cl h).2.1, (zSeal_cl h).2.2, q_1_0 h, q_1_1 h, q_1_2 h, q_1_6 h, q_1_7 h, q_1_8 h, q_1_9 h, q_1_10 h, q_14 h, ite_self, not_false_eq_true, not_true_eq_false, Nat.reduceEqDiff, reduceIte, true_and, and_true, false_and, and_false, ite_true, ite_false]
    intro i hi; have := h12 i hi; grind [zNo_lt, zk_m1]
  · simp only [F327_0, G226, G327_0, M5, zup2, zup1, zite2, zite1, upd_r, K95_1, K95_r, K214_1, K214_r, (zSeal_cl h).1, (zSeal_cl h).2.1, (zSeal_cl h).2.2, q_1_0 h, q_1_1 h, q_1_2 h, q_1_6 h, q_1_7 h, q_1_8 h, q_1_9 h, q_1_10 h, q_14 h, ite_self, not_false_eq_true, not_true_eq_false, Nat.reduceEqDiff, reduceIte, true_and, and_true, false_and, and_false, ite_true, ite_false]
    grind [zNo_lt]
  · simp only [F327_0, G226, G327_0, M5, zup2, zup1, zite2, zite1, upd_r, K95_1, K95_r, K214_1, K214_r, (zSeal_cl h).1, (zSeal_cl h).2.1, (zSeal_cl h).2.2, q_1_0 h, q_1_1 h, q_1_2 h, q_1_6 h, q_1_7 h, q_1_8 h, q_1_9 h, q_1_10 h, q_14 h, ite_self, not_false_eq_true, not_true_eq_false, Nat.reduceEqDiff, reduceIte, true_and, and_true, false_and, and_false, ite_true, ite_false]
    intro i hi; have := h14 i hi; grind [zNo_lt]
  · first
    | exact h15
    | (simp only [F327_0, G226, G327_0, M5, zup2, zup1, zite2, zite1, upd_r, K95_1, K95_r, K214_1, K214_r, (zSeal_cl h).1, (zSeal_cl h).2.1, (zSeal_cl h).2.2, q_1_0 h, q_1_1 h, q_1_2 h, q_1_6 h, q_1_7 h, q_1_8 h, q_1_9 h, q_1_10 h, q_14 h, ite_self, not_false_eq_true, not_true_eq_false, Nat.reduceEqDiff, reduceIte, true_and, and_true, false_and, and_false, ite_true, ite_false]; done)
    | (simp only [F327_0, G226, G327_0, M5, zup2, zup1, zite2, zite1, upd_r, K95_1, K95_r, K214_1, K214_r, (zSeal_cl h).1, (zSeal_cl h).2.1, (zSeal_cl h).2.2, q_1_0 h, q_1_1 h, q_1_2 h, q_1_6 h, q_1_7 h, q_1_8 h, q_1_9 h, q_1_10 h, q_14 h, ite_self, not_false_eq_true, not_true_eq_false, Nat.reduceEqDiff, reduceIte, true_and, and_true, false_and, and_false, ite_true, ite_false]; first | exact h15 | grind [zb] | (funext b; grind [zb]))
  · simp only [F327_0, G226, G327_0, M5, zup2, zup1, zite2, zite1, upd_r, K95_1, K95_r, K214_1, K214_r, (zSeal_cl h).1, (zSeal_cl h).2.1, (zSeal_cl h).2.2, q_1_0 h, q_1_1 h, q_1_2 h, q_1_6 h, q_1_7 h, q_1_8 h, q_1_9 h, q_1_10 h, q_14 h, ite_self, not_false_eq_true, not_true_eq_false, Nat.reduceEqDiff, reduceIte, true_and, and_true, false_and, and_false, ite_true, ite_false]
    grind [zo]
  · first
    | exact h17
    | (simp only [F327_0, G226, G327_0, M5, zup2, zup1, zite2, zite1, upd_r, K95_1, K95_r, K214_1, K214_r, (zSeal_cl h).1, (zSeal_cl h).2.1, (zSeal_cl h).2.2, q_1_0 h, q_1_1 h, q_1_2 h, q_1_6 h, q_1_7 h, q_1_8 h, q_1_9 h, q_1_10 h, q_14 h, ite_self, not_false_eq_true, not_true_eq_false, Nat.reduceEqDiff, reduceIte, true_and, and_true, false_and, and_false, ite_true, ite_false]; done)
    | (simp only [F327_0, G226, G327_0, M5, zup2, zup1, zite2, zite1, upd_r, K95_1, K95_r, K214_1, K214_r, (zSeal_cl h).1, (zSeal_cl h).2.1, (zSeal_cl h).2.2, q_1_0 h, q_1_1 h, q_1_2 h, q_1_6 h, q_1_7 h, q_1_8 h, q_1_9 h, q_1_10 h, q_14 h, ite_self, not_false_eq_true, not_true_eq_false, Nat.reduceEqDiff, reduceIte, true_and, and_true, false_and, and_false, ite_true, ite_false]; first | exact h17 | grind [zb] | (funext b; grind [zb]))
  · first
    | exact h18
    | (simp only [F327_0, G226, G327_0, M5, zup2, zup1, zite2, zite1, upd_r, K95_1, K95_r, K214_1, K214_r, (zSeal_cl h).1, (zSeal_cl h).2.1, (zSeal_cl h).2.2, q_1_0 h, q_1_1 h, q_1_2 h, q_1_6 h, q_1_7 h, q_1_8 h, q_1_9 h, q_1_10 h, q_14 h, ite_self, not_false_eq_true, not_true_eq_false, Nat.reduceEqDiff, reduceIte, true_and, and_true, false_and, and_false, ite_true, ite_false]; done)
    | (simp only [F327_0, G226, G327_0, M5, zup2, zup1, zite2, zite1, upd_r, K95_1, K95_r, K214_1, K214_r, (zSeal_cl h).1, (zSeal_cl h).2.1, (zSeal_cl h).2.2, q_1_0 h, q_1_1 h, q_1_2 h, q_1_6 h, q_1_7 h, q_1_8 h, q_1_9 h, q_1_10 h, q_14 h, ite_self, not_false_eq_true, not_true_eq_false, Nat.reduceEqDiff, reduceIte, true_and, and_true, false_and, and_false, ite_true, ite_false]; first | exact h18 | grind [zb] | (funext b; grind [zb]))
  · simp only [F327_0, G226, G327_0, M5, zup2, zup1, zite2, zite1, upd_r, K95_1, K95_r, K214_1, K214_r, (zSeal_cl h).1, (zSeal_cl h).2.1, (zSeal_cl h).2.2, q_1_0 h, q_1_1 h, q_1_2 h, q_1_6 h, q_1_7 h, q_1_8 h, q_1_9 h, q_1_10 h, q_14 h, ite_self, not_false_eq_true, not_true_eq_false, Nat.reduceEqDiff, reduceIte, true_and, and_true, false_and, and_false, ite_true, ite_false]
    clear h12 h14 h20; unfold zn at *; simp only [zk_lt, zk_le, zlt_m1, zlt_0, zlt_1, zlt_2, zlt_3, zlt_4, zlt_5, zlt_6, zlt_7, zlt_8, zlt_9, zlt_10, zlt_15, zlt_16, zlt_20, zlt_24, zlt_30, zlt_36, zlt_39, zlt_40, zlt_50, zlt_72, zlt_100, zlt_199, zlt_200, zlt_215, zlt_216, zlt_255, zlt_256, zlt_1000, zlt_9999, zlt_65535, zlt_1000000000] at *; grind
  · simp only [F327_0, G226, G327_0, M5, zup2, zup1, zite2, zite1, upd_r, K95_1, K95_r, K214_1, K214_r, (zSeal_cl h).1, (zSeal_cl h).2.1, (zSeal_cl h).2.2, q_1_0 h, q_1_1 h, q_1_2 h, q_1_6 h, q_1_7 h, q_1_8 h, q_1_9 h, q_1_10 h, q_14 h, ite_self, not_false_eq_true, not_true_eq_false, Nat.reduceEqDiff, reduceIte, true_and, and_true, false_and, and_false, ite_true, ite_false]
    grind [zNo_ge]
