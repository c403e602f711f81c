/-! call 3: the class and the reference answer alike (wip/whole/man/03.txt) -/
theorem zyr3 {n : Nat} {S T : zS} (hn : n < 512) (h : zR n S T) : (S 1 6) = (T 13 2) := by
  first
  | (simp only [zup2, zup1, zite2, zite1, upd_r, q_1_6 h, ite_self, not_false_eq_true, not_true_eq_false, Nat.reduceEqDiff, reduceIte, true_and, and_true, false_and, and_false, ite_true, ite_false]; done)
  | (simp only [zup2, zup1, zite2, zite1, upd_r, q_1_6 h, ite_self, not_false_eq_true, not_true_eq_false, Nat.reduceEqDiff, reduceIte, true_and, and_true, false_and, and_false, ite_true, ite_false]; grind [zb])
theorem zyt3_Seal {n : Nat} {S T : zS} (hn : n < 512) (h : zR n S T) : zSeal (z_up (K95_2_S 0 (z_up (z_up S 1 6 0) 1 7 0)) 1 5 0) (M3  T) := by
  have hr := zR_Seal h
  unfold zSeal at hr ⊢
  obtain ⟨h0, h1, h2, h3, h4, h5, h6, h7, h8, h9, h10, h11, h12, h13, h14, h15, h16, h17, h18, h19, h20⟩ := hr
  refine ⟨?_, ?_, ?_, ?_, ?_, ?_, ?_, ?_, ?_, ?_, ?_, ?_, ?_, ?_, ?_, ?_, ?_, ?_, ?_, ?_, ?_⟩
  · first
    | exact h0
    | (simp only [M3, zup2, zup1, zite2, zite1, upd_r, K95_1, K95_r, K214_1, K214_r, (zSeal_cl h).1, (zSeal_cl h).2.1, (zSeal_cl h).2.2, zCnt_no, zk_m1, q_1_0 h, q_1_1 h, q_1_2 h, q_1_6 h, q_1_7 h, q_1_8 h, q_1_9 h, q_1_10 h, q_14 h, ite_self, not_false_eq_true, not_true_eq_false, Nat.reduceEqDiff, reduceIte, true_and, and_true, false_and, and_false, ite_true, ite_false]; done)
    | (simp only [M3, zup2, zup1, zite2, zite1, upd_r, K95_1, K95_r, K214_1, K214_r, (zSeal_cl h).1, (zSeal_cl h).2.1, (zSeal_cl h).2.2, zCnt_no, zk_m1, q_1_0 h, q_1_1 h, q_1_2 h, q_1_6 h, q_1_7 h, q_1_8 h, q_1_9 h, q_1_10 h, q_14 h, ite_self, not_false_eq_true, not_true_eq_false, Nat.reduceEqDiff, reduceIte, true_and, and_true, false_and, and_false, ite_true, ite_false]; first | exact h0 | grind [zb] | (funext b; grind [zb]))
  · first
    | exact h1
    | (simp only [M3, zup2, zup1, zite2, zite1, upd_r, K95_1, K95_r, K214_1, K214_r, (zSeal_cl h).1, (zSeal_cl h).2.1, (zSeal_cl h).2.2, zCnt_no, zk_m1, q_1_0 h, q_1_1 h, q_1_2 h, q_1_6 h, q_1_7 h, q_1_8 h, q_1_9 h, q_1_10 h, q_14 h, ite_self, not_false_eq_true, not_true_eq_false, Nat.reduceEqDiff, reduceIte, true_and, and_true, false_and, and_false, ite_true, ite_false]; done)
    | (simp only [M3, zup2, zup1, zite2, zite1, upd_r, K95_1, K95_r, K214_1, K214_r, (zSeal_cl h).1, (zSeal_cl h).2.1, (zSeal_cl h).2.2, zCnt_no, zk_m1, q_1_0 h, q_1_1 h, q_1_2 h, q_1_6 h, q_1_7 h, q_1_8 h, q_1_9 h, q_1_10 h, q_14 h, ite_self, not_false_eq_true, not_true_eq_false, Nat.reduceEqDiff, reduceIte, true_and, and_true, false_and, and_false, ite_true, ite_false]; first | exact h1 | grind [zb] | (funext b; grind [zb]))
  · first
    | exact h2
    | (simp only [M3, zup2, zup1, zite2, zite1, upd_r, K95_1, K95_r, K214_1, K214_r, (zSeal_cl h).1, (zSeal_cl h).2.1, (zSeal_cl h).2.2, zCnt_no, zk_m1, q_1_0 h, q_1_1 h, q_1_2 h, q_1_6 h, q_1_7 h, q_1_8 h, q_1_9 h, q_1_10 h, q_14 h, ite_self, not_false_eq_true, not_true_eq_false, Nat.reduceEqDiff, reduceIte, true_and, and_true, false_and, and_false, ite_true, ite_false]; done)
    | (simp only [M3, zup2, zup1, zite2, zite1, upd_r, K95_1, K95_r, K214_1, K214_r, (zSeal_cl h).1, (zSeal_cl h).2.1, (zSeal_cl h).2.2, zCnt_no, zk_m1, q_1_0 h, q_1_1 h, q_1_2 h, q_1_6 h, q_1_7 h, q_1_8 h, q_1_9 h, q_1_10 h, q_14 h, ite_self, not_false_eq_true, not_true_eq_false, Nat.reduceEqDiff, reduceIte, true_and, and_true, false_and, and_false, ite_true, ite_false]; first | exact h2 | grind [zb] | (funext b; grind [zb]))
  · first
    | exact h3
    | (simp only [M3, zup2, zup1, zite2, zite1, upd_r, K95_1, K95_r, K214_1, K214_r, (zSeal_cl h).1, (zSeal_cl h).2.1, (zSeal_cl h).2.2, zCnt_no, zk_m1, q_1_0 h, q_1_1 h, q_1_2 h, q_1_6 h, q_1_7 h, q_1_8 h, q_1_9 h, q_1_10 h, q_14 h, ite_self, not_false_eq_true, not_true_eq_false, Nat.reduceEqDiff, reduceIte, true_and, and_true, false_and, and_false, ite_true, ite_false]; done)
    | (simp only [M3, zup2, zup1, zite2, zite1, upd_r, K95_1, K95_r, K214_1, K214_r, (zSeal_cl h).1, (zSeal_cl h).2.1, (zSeal_cl h).2.2, zCnt_no, zk_m1, q_1_0 h, q_1_1 h, q_1_2 h, q_1_6 h, q_1_7 h, q_1_8 h, q_1_9 h, q_1_10 h, q_14 h, ite_self, not_false_eq_true, not_true_eq_false, Nat.reduceEqDiff, reduceIte, true_and, and_true, false_and, and_false, ite_true, ite_false]; first | exact h3 | grind [zb] | (funext b; grind [zb]))
  · first
    | exact h4
    | (simp only [M3, zup2, zup1, zite2, zite1, upd_r, K95_1, K95_r, K214_1, K214_r, (zSeal_cl h).1, (zSeal_cl h).2.1, (zSeal_cl h).2.2, zCnt_no, zk_m1, q_1_0 h, q_1_1 h, q_1_2 h, q_1_6 h, q_1_7 h, q_1_8 h, q_1_9 h, q_1_10 h, q_14 h, ite_self, not_false_eq_true, not_true_eq_false, Nat.reduceEqDiff, reduceIte, true_and, and_true, false_and, and_false, ite_true, ite_false]; done)
    | (simp only [M3, zup2, zup1, zite2, zite1, upd_r, K95_1, K95_r, K214_1, K214_r, (zSeal_cl h).1, (zSeal_cl h).2.1, (zSeal_cl h).2.2, zCnt_no, zk_m1, q_1_0 h, q_1_1 h, q_1_2 h, q_1_6 h, q_1_7 h, q_1_8 h, q_1_9 h, q_1_10 h, q_14 h, ite_self, not_false_eq_true, not_true_eq_false, Nat.reduceEqDiff, reduceIte, true_and, and_true, false_and, and_false, ite_true, ite_false]; first | exact h4 | grind [zb] | (funext b; grind [zb]))
  · first
    | exact h5
    | (simp only [M3, zup2, zup1, zite2, zite1, upd_r, K95_1, K95_r, K214_1, K214_r, (zSeal_cl h).1, (zSeal_cl h).2.1, (zSeal_cl h).2.2, zCnt_no, zk_m1, q_1_0 h, q_1_1 h, q_1_2 h, q_1_6 h, q_1_7 h, q_1_8 h, q_1_9 h, q_1_10 h, q_14 h, ite_self, not_false_eq_true, not_true_eq_false, Nat.reduceEqDiff, reduceIte, true_and, and_true, false_and, and_false, ite_true, ite_false]; done)
    | (simp only [M3, zup2, zup1, zite2, zite1, upd_r, K95_1, K95_r, K214_1, K214_r, (zSeal_cl h).1, (zSeal_cl h).2.1, (zSeal_cl h).2.2, zCnt_no, zk_m1, q_1_0 h, q_1_1 h, q_1_2 h, q_1_6 h, q_1_7 h, q_1_8 h, q_1_9 h, q_1_10 h, q_14 h, ite_self, not_false_eq_true, not_true_eq_false, Nat.reduceEqDiff, reduceIte, true_and, and_true, false_and, and_false, ite_true, ite_false]; first | exact h5 | grind [zb] | (funext b; grind [zb]))
  · first
    | exact h6
    | (simp only [M3, zup2, zup1, zite2, zite1, upd_r, K95_1, K95_r, K214_1, K214_r, (zSeal_cl h).1, (zSeal_cl h).2.1, (zSeal_cl h).2.2, zCnt_no, zk_m1, q_1_0 h, q_1_1 h, q_1_2 h, q_1_6 h, q_1_7 h, q_1_8 h, q_1_9 h, q_1_10 h, q_14 h, ite_self, not_false_eq_true, not_true_eq_false, Nat.reduceEqDiff, reduceIte, true_and, and_true, false_and, and_false, ite_true, ite_false]; done)
    | (simp only [M3, zup2, zup1, zite2, zite1, upd_r, K95_1, K95_r, K214_1, K214_r, (zSeal_cl h).1, (zSeal_cl h).2.1, (zSeal_cl h).2.2, zCnt_no, zk_m1, q_1_0 h, q_1_1 h, q_1_2 h, q_1_6 h, q_1_7 h, q_1_8 h, q_1_9 h, q_1_10 h, q_14 h, ite_self, not_false_eq_true, not_true_eq_false, Nat.reduceEqDiff, reduceIte, true_and, and_true, false_and, and_false, ite_true, ite_false]; first | exact h6 | grind [zb] | (funext b; grind [zb]))
  · first
    | exact h7
    | (simp only [M3, zup2, zup1, zite2, zite1, upd_r, K95_1, K95_r, K214_1, K214_r, (zSeal_cl h).1, (zSeal_cl h).2.1, (zSeal_cl h).2.2, zCnt_no, zk_m1, q_1_0 h, q_1_1 h, q_1_2 h, q_1_6 h, q_1_7 h, q_1_8 h, q_1_9 h, q_1_10 h, q_14 h, ite_self, not_false_eq_true, not_true_eq_false, Nat.reduceEqDiff, reduceIte, true_and, and_true, false_and, and_false, ite_true, ite_false]; done)
    | (simp only [M3, zup2, zup1, zite2, zite1, upd_r, K95_1, K95_r, K214_1, K214_r, (zSeal_cl h).1, (zSeal_cl h).2.1, (zSeal_cl h).2.2, zCnt_no, zk_m1, q_1_0 h, q_1_1 h, q_1_2 h, q_1_6 h, q_1_7 h, q_1_8 h, q_1_9 h, q_1_10 h, q_14 h, ite_self, not_false_eq_true, not_true_eq_false, Nat.reduceEqDiff, reduceIte, true_and, and_true, false_and, and_false, ite_true, ite_false]; first | exact h7 | grind [zb] | (funext b; grind [zb]))
  · first
    | exact h8
    | (simp only [M3, zup2, zup1, zite2, zite1, upd_r, K95_1, K95_r, K214_1, K214_r, (zSeal_cl h).1, (zSeal_cl h).2.1, (zSeal_cl h).2.2, zCnt_no, zk_m1, q_1_0 h, q_1_1 h, q_1_2 h, q_1_6 h, q_1_7 h, q_1_8 h, q_1_9 h, q_1_10 h, q_14 h, ite_self, not_false_eq_true, not_true_eq_false, Nat.reduceEqDiff, reduceIte, true_and, and_true, false_and, and_false, ite_true, ite_false]; done)
    | (simp only [M3, zup2, zup1, zite2, zite1, upd_r, K95_1, K95_r, K214_1, K214_r, (zSeal_cl h).1, (zSeal_cl h).2.1, (zSeal_cl h).2.2, zCnt_no, zk_m1, q_1_0 h, q_1_1 h, q_1_2 h, q_1_6 h, q_1_7 h, q_1_8 h, q_1_9 h, q_1_10 h, q_14 h, ite_self, not_false_eq_true, not_true_eq_false, Nat.reduceEqDiff, reduceIte, true_and, and_true, false_and, and_false, ite_true, ite_false]; first | exact h8 | grind [zb] | (funext b; grind [zb]))
  · first
    | exact h9
    | (simp only [M3, zup2, zup1, zite2, zite1, upd_r, K95_1, K95_r, K214_1, K214_r, (zSeal_cl h).1, (zSeal_cl h).2.1, (zSeal_cl h).2.2, zCnt_no, zk_m1, q_1_0 h, q_1_1 h, q_1_2 h, q_1_6 h, q_1_7 h, q_1_8 h, q_1_9 h, q_1_10 h, q_14 h, ite_self, not_false_eq_true, not_true_eq_false, Nat.reduceEqDiff, reduceIte, true_and, and_true, false_and, and_false, ite_true, ite_false]; done)
    | (simp only [M3, zup2, zup1, zite2, zite1, upd_r, K95_1, K95_r, K214_1, K214_r, (zSeal_cl h).1, (zSeal_cl h).2.1, (zSeal_cl h).2.2, zCnt_no, zk_m1, q_1_0 h, q_1_1 h, q_1_2 h, q_1_6 h, q_1_7 h, q_1_8 h, q_1_9 h, q_1_10 h, q_14 h, ite_self, not_false_eq_true, not_true_eq_false, Nat.reduceEqDiff, reduceIte, true_and, and_true, false_and, and_false, ite_true, ite_false]; first | exact h9 | grind [zb] | (funext b; grind [zb]))
  · first
    | exact h10
    | (simp only [M3, zup2, zup1, zite2, zite1, upd_r, K95_1, K95_r, K214_1, K214_r, (zSeal_cl h).1, (zSeal_cl h).2.1, (zSeal_cl h).2.2, zCnt_no, zk_m1, q_1_0 h, q_1_1 h, q_1_2 h, q_1_6 h, q_1_7 h, q_1_8 h, q_1_9 h, q_1_10 h, q_14 h, ite_self, not_false_eq_true, not_true_eq_false, Nat.reduceEqDiff, reduceIte, true_and, and_true, false_and, and_false, ite_true, ite_false]; done)
    | (simp only [M3, zup2, zup1, zite2, zite1, upd_r, K95_1, K95_r, K214_1, K214_r, (zSeal_cl h).1, (zSeal_cl h).2.1, (zSeal_cl h).2.2, zCnt_no, zk_m1, q_1_0 h, q_1_1 h, q_1_2 h, q_1_6 h, q_1_7 h, q_1_8 h, q_1_9 h, q_1_10 h, q_14 h, ite_self, not_false_eq_true, not_true_eq_false, Nat.reduceEqDiff, reduceIte, true_and, and_true, false_and, and_false, ite_true, ite_false]; first | exact h10 | grind [zb] | (funext b; grind [zb]))
  · first
    | exact h11
    | (simp only [M3, zup2, zup1, zite2, zite1, upd_r, K95_1, K95_r, K214_1, K214_r, (zSeal_cl h).1, (zSeal_cl h).2.1, (zSeal_cl h).2.2, zCnt_no, zk_m1, q_1_0 h, q_1_1 h, q_1_2 h, q_1_6 h, q_1_7 h, q_1_8 h, q_1_9 h, q_1_10 h, q_14 h, ite_self, not_false_eq_true, not_true_eq_false, Nat.reduceEqDiff, reduceIte, true_and, and_true, false_and, and_false, ite_true, ite_false]; done)
    | (simp only [M3, zup2, zup1, zite2, zite1, upd_r, K95_1, K95_r, K214_1, K214_r, (zSeal_cl h).1, (zSeal_cl h).2.1, (zSeal_cl h).2.2, zCnt_no, zk_m1, q_1_0 h, q_1_1 h, q_1_2 h, q_1_6 h, q_1_7 h, q_1_8 h, q_1_9 h, q_1_10 h, q_14 h, ite_self, not_false_eq_true, not_true_eq_false, Nat.reduceEqDiff, reduceIte, true_and, and_true, false_and, and_false, ite_true, ite_false]; first | exact h11 | grind [zb] | (funext b; grind [zb]))
  · simp only [M3, zup2, zup1, zite2, zite1, upd_r, K95_1, K95_r, K214_1, K214_r, (zSeal_cl h).1, (zSeal_cl h).2.1, (zSeal_cl h).2.2, zCnt_no, zk_m1, q_1_0 h, q_1_1 h, q_1_2 h, q_1_6 h, q_1_7 h, q_1_8 h, q_1_9 h, q_1_10 h, q_14 h, ite_self, not_false_eq_true, not_true_eq_false, Nat.reduceEqDiff, reduceIte, true_and, and_true, false_and, and_false, ite_true, ite_false]
    intro i hi; rw [zNo_lt hi]; decide
  · simp only [M3, zup2, zup1, zite2, zite1, upd_r, K95_1, K95_r, K214_1, K214_r, (zSeal_cl h).1, (zSeal_cl h).2.1, (zSeal_cl h).2.2, zCnt_no, zk_m1, q_1_0 h, q_1_1 h, q_1_2 h, q_1_6 h, q_1_7 h, q_1_8 h, q_1_9 h, q_1_10 h, q_14 h, ite_self, not_false_eq_true, not_true_eq_false, Nat.reduceEqDiff, reduceIte, true_and, and_true, false_and, and_false, ite_true, ite_false]
    exact zNo_lt (by decide)
  · simp only [M3, zup2, zup1, zite2, zite1, upd_r, K95_1, K95_r, K214_1, K214_r, (zSeal_cl h).1, (zSeal_cl h).2.1, (zSeal_cl h).2.2, zCnt_no, zk_m1, q_1_0 h, q_1_1 h, q_1_2 h, q_1_6 h, q_1_7 h, q_1_8 h, q_1_9 h, q_1_10 h, q_14 h, ite_self, not_false_eq_true, not_true_eq_false, Nat.reduceEqDiff, reduceIte, true_and, and_true, false_and, and_false, ite_true, ite_false]
    intro i hi _; exact zNo_lt hi
  · simp only [M3, zup2, zup1, zite2, zite1, upd_r, K95_1, K95_r, K214_1, K214_r, (zSeal_cl h).1, (zSeal_cl h).2.1, (zSeal_cl h).2.2, zCnt_no, zk_m1, q_1_0 h, q_1_1 h, q_1_2 h, q_1_6 h, q_1_7 h, q_1_8 h, q_1_9 h, q_1_10 h, q_14 h, ite_self, not_false_eq_true, not_true_eq_false, Nat.reduceEqDiff, reduceIte, true_and, and_true, false_and, and_false, ite_true, ite_false]
    exact Or.inl rfl
  · simp only [M3, zup2, zup1, zite2, zite1, upd_r, K95_1, K95_r, K214_1, K214_r, (zSeal_cl h).1, (zSeal_cl h).2.1, (zSeal_cl h).2.2, zCnt_no, zk_m1, q_1_0 h, q_1_1 h, q_1_2 h, q_1_6 h, q_1_7 h, q_1_8 h, q_1_9 h, q_1_10 h, q_14 h, ite_self, not_false_eq_true, not_true_eq_false, Nat.reduceEqDiff, reduceIte, true_and, and_true, false_and, and_false, ite_true, ite_false]
    exact Or.inl rfl
  · first
    | exact h17
    | (simp only [M3, zup2, zup1, zite2, zite1, upd_r, K95_1, K95_r, K214_1, K214_r, (zSeal_cl h).1, (zSeal_cl h).2.1, (zSeal_cl h).2.2, zCnt_no, zk_m1, q_1_0 h, q_1_1 h, q_1_2 h, q_1_6 h, q_1_7 h, q_1_8 h, q_1_9 h, q_1_10 h, q_14 h, ite_self, not_false_eq_true, not_true_eq_false, Nat.reduceEqDiff, reduceIte, true_and, and_true, false_and, and_false, ite_true, ite_false]; done)
    | (simp only [M3, zup2, zup1, zite2, zite1, upd_r, K95_1, K95_r, K214_1, K214_r, (zSeal_cl h).1, (zSeal_cl h).2.1, (zSeal_cl h).2.2, zCnt_no, zk_m1, q_1_0 h, q_1_1 h, q_1_2 h, q_1_6 h, q_1_7 h, q_1_8 h, q_1_9 h, q_1_10 h, q_14 h, ite_self, not_false_eq_true, not_true_eq_false, Nat.reduceEqDiff, reduceIte, true_and, and_true, false_and, and_false, ite_true, ite_false]; first | exact h17 | grind [zb] | (funext b; grind [zb]))
  · first
    | exact h18
    | (simp only [M3, zup2, zup1, zite2, zite1, upd_r, K95_1, K95_r, K214_1, K214_r, (zSeal_cl h).1, (zSeal_cl h).2.1, (zSeal_cl h).2.2, zCnt_no, zk_m1, q_1_0 h, q_1_1 h, q_1_2 h, q_1_6 h, q_1_7 h, q_1_8 h, q_1_9 h, q_1_10 h, q_14 h, ite_self, not_false_eq_true, not_true_eq_false, Nat.reduceEqDiff, reduceIte, true_and, and_true, false_and, and_false, ite_true, ite_false]; done)
    | (simp only [M3, zup2, zup1, zite2, zite1, upd_r, K95_1, K95_r, K214_1, K214_r, (zSeal_cl h).1, (zSeal_cl h).2.1, (zSeal_cl h).2.2, zCnt_no, zk_m1, q_1_0 h, q_1_1 h, q_1_2 h, q_1_6 h, q_1_7 h, q_1_8 h, q_1_9 h, q_1_10 h, q_14 h, ite_self, not_false_eq_true, not_true_eq_false, Nat.reduceEqDiff, reduceIte, true_and, and_true, false_and, and_false, ite_true, ite_false]; first | exact h18 | grind [zb] | (funext b; grind [zb]))
  · simp only [M3, zup2, zup1, zite2, zite1, upd_r, K95_1, K95_r, K214_1, K214_r, (zSeal_cl h).1, (zSeal_cl h).2.1, (zSeal_cl h).2.2, zCnt_no, zk_m1, q_1_0 h, q_1_1 h, q_1_2 h, q_1_6 h, q_1_7 h, q_1_8 h, q_1_9 h, q_1_10 h, q_14 h, ite_self, not_false_eq_true, not_true_eq_false, Nat.reduceEqDiff, reduceIte, true_and, and_true, false_and, and_false, ite_true, ite_false]
    exact h19
  · simp only [M3, zup2, zup1, zite2, zite1, upd_r, K95_1, K95_r, K214_1, K214_r, (zSeal_cl h).1, (zSeal_cl h).2.1, (zSeal_cl h).2.2, zCnt_no, zk_m1, q_1_0 h, q_1_1 h, q_1_2 h, q_1_6 h, q_1_7 h, q_1_8 h, q_1_9 h, q_1_10 h, q_14 h, ite_self, not_false_eq_true, not_true_eq_false, Nat.reduceEqDiff, reduceIte, true_and, and_true, false_and, and_false, ite_true, ite_false]
    intro i hi; exact zNo_ge hi
