/-! call 20: the class and the reference answer alike (wip/whole/man/20.txt) -/
theorem zyr20 {n : Nat} {S T : zS} (q1 : Int32) (q2 : Int32) (h : zR n S T) : ((G261 q1 q2 T) 13 0) = (F340_0_148 q1 q2 S) ∧ ((F340_0_148 q1 q2 S) = 0 → ((G340_0_148 q1 q2 S) 148 0) = (F261 q1 q2 T)) := by
  have hk := i_Tok_10 h
  unfold zn at hk
  first
  | (simp only [F261, F340_0_148, G122, G260, G261, G340_0_148, zup2, zup1, zite2, zite1, upd_r, Int32.mul_comm 6 q1, q_1_6 h, q_24 h, q_25 h, q_5_0 h, q_30 h, ite_self, not_false_eq_true, not_true_eq_false, Nat.reduceEqDiff, reduceIte, true_and, and_true, false_and, and_false, ite_true, ite_false]; done)
  | (simp only [F261, F340_0_148, G122, G260, G261, G340_0_148, zup2, zup1, zite2, zite1, upd_r, Int32.mul_comm 6 q1, q_1_6 h, q_24 h, q_25 h, q_5_0 h, q_30 h, ite_self, not_false_eq_true, not_true_eq_false, Nat.reduceEqDiff, reduceIte, true_and, and_true, false_and, and_false, ite_true, ite_false]; grind [zb])
theorem zyt20_Tok {n : Nat} {S T : zS} (q1 : Int32) (q2 : Int32) (hn : n < 512) (h : zR n S T) : zTok (G340_0_148 q1 q2 S) (M20 q1 q2 T) := by
  have hr := zR_Tok h
  unfold zTok at hr ⊢
  obtain ⟨h0, h1, h2, h3, h4, h5, h6, h7, h8, h9, h10, h11, h12, h13, h14, h15, h16, h17, h18, h19, h20⟩ := hr
  have hu : upd (T 119) (T 13 45).toNatClampNeg 0 = T 119 := by
    funext j
    rw [upd_r]
    split
    · rename_i e; rw [e]; exact (h16 _ (Nat.le_refl _)).symm
    · rfl
  have hc : ¬ T 13 45 = 40 → (T 13 45 + 1).toInt = (T 13 45).toInt + 1 ∧ (T 13 45 + 1).toNatClampNeg = (T 13 45).toNatClampNeg + 1 ∧ ((T 13 45).toNatClampNeg : Int) = (T 13 45).toInt ∧ (T 13 45).toInt < 40 := by
    intro e
    have hk := h10
    unfold zn at hk
    have e1 : (T 13 45 + 1).toInt = (T 13 45).toInt + 1 := by rw [zk_tadd (by rw [zk_1]; omega) (by rw [zk_1]; omega), zk_1]
    have e2 := zk_nat (x := T 13 45) (by omega)
    have e3 := zk_nat (x := T 13 45 + 1) (by omega)
    have e4 : ¬ (T 13 45).toInt = 40 := fun e9 => e (zk_eq.mpr e9)
    omega
  refine ⟨?_, ?_, ?_, ?_, ?_, ?_, ?_, ?_, ?_, ?_, ?_, ?_, ?_, ?_, ?_, ?_, ?_, ?_, ?_, ?_, ?_⟩
  · first
    | exact h0
    | (simp only [F261, F340_0_148, G122, G260, G261, G340_0_148, M20, zup2, zup1, zite2, zite1, upd_r, Int32.mul_comm 6 q1, q_1_6 h, q_24 h, q_25 h, q_5_0 h, q_30 h, q_31 h, q_32 h, q_33 h, q_34 h, q_37 h, q_38 h, q_39 h, q_40 h, ite_self, not_false_eq_true, not_true_eq_false, Nat.reduceEqDiff, reduceIte, true_and, and_true, false_and, and_false, ite_true, ite_false]; done)
    | (simp only [F261, F340_0_148, G122, G260, G261, G340_0_148, M20, zup2, zup1, zite2, zite1, upd_r, Int32.mul_comm 6 q1, q_1_6 h, q_24 h, q_25 h, q_5_0 h, q_30 h, q_31 h, q_32 h, q_33 h, q_34 h, q_37 h, q_38 h, q_39 h, q_40 h, ite_self, not_false_eq_true, not_true_eq_false, Nat.reduceEqDiff, reduceIte, true_and, and_true, false_and, and_false, ite_true, ite_false]; first | exact h0 | grind [zb] | (funext b; grind [zb]))
  · first
    | exact h1
    | (simp only [F261, F340_0_148, G122, G260, G261, G340_0_148, M20, zup2, zup1, zite2, zite1, upd_r, Int32.mul_comm 6 q1, q_1_6 h, q_24 h, q_25 h, q_5_0 h, q_30 h, q_31 h, q_32 h, q_33 h, q_34 h, q_37 h, q_38 h, q_39 h, q_40 h, ite_self, not_false_eq_true, not_true_eq_false, Nat.reduceEqDiff, reduceIte, true_and, and_true, false_and, and_false, ite_true, ite_false]; done)
    | (simp only [F261, F340_0_148, G122, G260, G261, G340_0_148, M20, zup2, zup1, zite2, zite1, upd_r, Int32.mul_comm 6 q1, q_1_6 h, q_24 h, q_25 h, q_5_0 h, q_30 h, q_31 h, q_32 h, q_33 h, q_34 h, q_37 h, q_38 h, q_39 h, q_40 h, ite_self, not_false_eq_true, not_true_eq_false, Nat.reduceEqDiff, reduceIte, true_and, and_true, false_and, and_false, ite_true, ite_false]; first | exact h1 | grind [zb] | (funext b; grind [zb]))
  · first
    | exact h2
    | (simp only [F261, F340_0_148, G122, G260, G261, G340_0_148, M20, zup2, zup1, zite2, zite1, upd_r, Int32.mul_comm 6 q1, q_1_6 h, q_24 h, q_25 h, q_5_0 h, q_30 h, q_31 h, q_32 h, q_33 h, q_34 h, q_37 h, q_38 h, q_39 h, q_40 h, ite_self, not_false_eq_true, not_true_eq_false, Nat.reduceEqDiff, reduceIte, true_and, and_true, false_and, and_false, ite_true, ite_false]; done)
    | (simp only [F261, F340_0_148, G122, G260, G261, G340_0_148, M20, zup2, zup1, zite2, zite1, upd_r, Int32.mul_comm 6 q1, q_1_6 h, q_24 h, q_25 h, q_5_0 h, q_30 h, q_31 h, q_32 h, q_33 h, q_34 h, q_37 h, q_38 h, q_39 h, q_40 h, ite_self, not_false_eq_true, not_true_eq_false, Nat.reduceEqDiff, reduceIte, true_and, and_true, false_and, and_false, ite_true, ite_false]; first | exact h2 | grind [zb] | (funext b; grind [zb]))
  · first
    | exact h3
    | (simp only [F261, F340_0_148, G122, G260, G261, G340_0_148, M20, zup2, zup1, zite2, zite1, upd_r, Int32.mul_comm 6 q1, q_1_6 h, q_24 h, q_25 h, q_5_0 h, q_30 h, q_31 h, q_32 h, q_33 h, q_34 h, q_37 h, q_38 h, q_39 h, q_40 h, ite_self, not_false_eq_true, not_true_eq_false, Nat.reduceEqDiff, reduceIte, true_and, and_true, false_and, and_false, ite_true, ite_false]; done)
    | (simp only [F261, F340_0_148, G122, G260, G261, G340_0_148, M20, zup2, zup1, zite2, zite1, upd_r, Int32.mul_comm 6 q1, q_1_6 h, q_24 h, q_25 h, q_5_0 h, q_30 h, q_31 h, q_32 h, q_33 h, q_34 h, q_37 h, q_38 h, q_39 h, q_40 h, ite_self, not_false_eq_true, not_true_eq_false, Nat.reduceEqDiff, reduceIte, true_and, and_true, false_and, and_false, ite_true, ite_false]; first | exact h3 | grind [zb] | (funext b; grind [zb]))
  · first
    | exact h4
    | (simp only [F261, F340_0_148, G122, G260, G261, G340_0_148, M20, zup2, zup1, zite2, zite1, upd_r, Int32.mul_comm 6 q1, q_1_6 h, q_24 h, q_25 h, q_5_0 h, q_30 h, q_31 h, q_32 h, q_33 h, q_34 h, q_37 h, q_38 h, q_39 h, q_40 h, ite_self, not_false_eq_true, not_true_eq_false, Nat.reduceEqDiff, reduceIte, true_and, and_true, false_and, and_false, ite_true, ite_false]; done)
    | (simp only [F261, F340_0_148, G122, G260, G261, G340_0_148, M20, zup2, zup1, zite2, zite1, upd_r, Int32.mul_comm 6 q1, q_1_6 h, q_24 h, q_25 h, q_5_0 h, q_30 h, q_31 h, q_32 h, q_33 h, q_34 h, q_37 h, q_38 h, q_39 h, q_40 h, ite_self, not_false_eq_true, not_true_eq_false, Nat.reduceEqDiff, reduceIte, true_and, and_true, false_and, and_false, ite_true, ite_false]; first | exact h4 | grind [zb] | (funext b; grind [zb]))
  · first
    | exact h5
    | (simp only [F261, F340_0_148, G122, G260, G261, G340_0_148, M20, zup2, zup1, zite2, zite1, upd_r, Int32.mul_comm 6 q1, q_1_6 h, q_24 h, q_25 h, q_5_0 h, q_30 h, q_31 h, q_32 h, q_33 h, q_34 h, q_37 h, q_38 h, q_39 h, q_40 h, ite_self, not_false_eq_true, not_true_eq_false, Nat.reduceEqDiff, reduceIte, true_and, and_true, false_and, and_false, ite_true, ite_false]; done)
    | (simp only [F261, F340_0_148, G122, G260, G261, G340_0_148, M20, zup2, zup1, zite2, zite1, upd_r, Int32.mul_comm 6 q1, q_1_6 h, q_24 h, q_25 h, q_5_0 h, q_30 h, q_31 h, q_32 h, q_33 h, q_34 h, q_37 h, q_38 h, q_39 h, q_40 h, ite_self, not_false_eq_true, not_true_eq_false, Nat.reduceEqDiff, reduceIte, true_and, and_true, false_and, and_false, ite_true, ite_false]; first | exact h5 | grind [zb] | (funext b; grind [zb]))
  · first
    | exact h6
    | (simp only [F261, F340_0_148, G122, G260, G261, G340_0_148, M20, zup2, zup1, zite2, zite1, upd_r, Int32.mul_comm 6 q1, q_1_6 h, q_24 h, q_25 h, q_5_0 h, q_30 h, q_31 h, q_32 h, q_33 h, q_34 h, q_37 h, q_38 h, q_39 h, q_40 h, ite_self, not_false_eq_true, not_true_eq_false, Nat.reduceEqDiff, reduceIte, true_and, and_true, false_and, and_false, ite_true, ite_false]; done)
    | (simp only [F261, F340_0_148, G122, G260, G261, G340_0_148, M20, zup2, zup1, zite2, zite1, upd_r, Int32.mul_comm 6 q1, q_1_6 h, q_24 h, q_25 h, q_5_0 h, q_30 h, q_31 h, q_32 h, q_33 h, q_34 h, q_37 h, q_38 h, q_39 h, q_40 h, ite_self, not_false_eq_true, not_true_eq_false, Nat.reduceEqDiff, reduceIte, true_and, and_true, false_and, and_false, ite_true, ite_false]; first | exact h6 | grind [zb] | (funext b; grind [zb]))
  · first
    | exact h7
    | (simp only [F261, F340_0_148, G122, G260, G261, G340_0_148, M20, zup2, zup1, zite2, zite1, upd_r, Int32.mul_comm 6 q1, q_1_6 h, q_24 h, q_25 h, q_5_0 h, q_30 h, q_31 h, q_32 h, q_33 h, q_34 h, q_37 h, q_38 h, q_39 h, q_40 h, ite_self, not_false_eq_true, not_true_eq_false, Nat.reduceEqDiff, reduceIte, true_and, and_true, false_and, and_false, ite_true, ite_false]; done)
    | (simp only [F261, F340_0_148, G122, G260, G261, G340_0_148, M20, zup2, zup1, zite2, zite1, upd_r, Int32.mul_comm 6 q1, q_1_6 h, q_24 h, q_25 h, q_5_0 h, q_30 h, q_31 h, q_32 h, q_33 h, q_34 h, q_37 h, q_38 h, q_39 h, q_40 h, ite_self, not_false_eq_true, not_true_eq_false, Nat.reduceEqDiff, reduceIte, true_and, and_true, false_and, and_false, ite_true, ite_false]; first | exact h7 | grind [zb] | (funext b; grind [zb]))
  · first
    | exact h8
    | (simp only [F261, F340_0_148, G122, G260, G261, G340_0_148, M20, zup2, zup1, zite2, zite1, upd_r, Int32.mul_comm 6 q1, q_1_6 h, q_24 h, q_25 h, q_5_0 h, q_30 h, q_31 h, q_32 h, q_33 h, q_34 h, q_37 h, q_38 h, q_39 h, q_40 h, ite_self, not_false_eq_true, not_true_eq_false, Nat.reduceEqDiff, reduceIte, true_and, and_true, false_and, and_false, ite_true, ite_false]; done)
    | (simp only [F261, F340_0_148, G122, G260, G261, G340_0_148, M20, zup2, zup1, zite2, zite1, upd_r, Int32.mul_comm 6 q1, q_1_6 h, q_24 h, q_25 h, q_5_0 h, q_30 h, q_31 h, q_32 h, q_33 h, q_34 h, q_37 h, q_38 h, q_39 h, q_40 h, ite_self, not_false_eq_true, not_true_eq_false, Nat.reduceEqDiff, reduceIte, true_and, and_true, false_and, and_false, ite_true, ite_false]; first | exact h8 | grind [zb] | (funext b; grind [zb]))
  · simp only [F261, F340_0_148, G122, G260, G261, G340_0_148, M20, zup2, zup1, zite2, zite1, upd_r, Int32.mul_comm 6 q1, q_1_6 h, q_24 h, q_25 h, q_5_0 h, q_30 h, q_31 h, q_32 h, q_33 h, q_34 h, q_37 h, q_38 h, q_39 h, q_40 h, ite_self, not_false_eq_true, not_true_eq_false, Nat.reduceEqDiff, reduceIte, true_and, and_true, false_and, and_false, ite_true, ite_false]
    grind
  · simp only [F261, F340_0_148, G122, G260, G261, G340_0_148, M20, zup2, zup1, zite2, zite1, upd_r, Int32.mul_comm 6 q1, q_1_6 h, q_24 h, q_25 h, q_5_0 h, q_30 h, q_31 h, q_32 h, q_33 h, q_34 h, q_37 h, q_38 h, q_39 h, q_40 h, ite_self, not_false_eq_true, not_true_eq_false, Nat.reduceEqDiff, reduceIte, true_and, and_true, false_and, and_false, ite_true, ite_false]
    clear h11 h12 h13 h14 h15 h16 h17 h18 h19; unfold zn at *; grind
  · first
    | exact h11
    | (simp only [F261, F340_0_148, G122, G260, G261, G340_0_148, M20, zup2, zup1, zite2, zite1, upd_r, Int32.mul_comm 6 q1, q_1_6 h, q_24 h, q_25 h, q_5_0 h, q_30 h, q_31 h, q_32 h, q_33 h, q_34 h, q_37 h, q_38 h, q_39 h, q_40 h, ite_self, not_false_eq_true, not_true_eq_false, Nat.reduceEqDiff, reduceIte, true_and, and_true, false_and, and_false, ite_true, ite_false]; done)
    | (simp only [F261, F340_0_148, G122, G260, G261, G340_0_148, M20, zup2, zup1, zite2, zite1, upd_r, Int32.mul_comm 6 q1, q_1_6 h, q_24 h, q_25 h, q_5_0 h, q_30 h, q_31 h, q_32 h, q_33 h, q_34 h, q_37 h, q_38 h, q_39 h, q_40 h, ite_self, not_false_eq_true, not_true_eq_false, Nat.reduceEqDiff, reduceIte, true_and, and_true, false_and, and_false, ite_true, ite_false]; first | exact h11 | (intro j; have hj := h11 j; grind [zb, zo, zn, zlt_m1, zlt_0, zlt_1]) | grind [zb] | (funext b; grind [zb]))
  · first
    | exact h12
    | (simp only [F261, F340_0_148, G122, G260, G261, G340_0_148, M20, zup2, zup1, zite2, zite1, upd_r, Int32.mul_comm 6 q1, q_1_6 h, q_24 h, q_25 h, q_5_0 h, q_30 h, q_31 h, q_32 h, q_33 h, q_34 h, q_37 h, q_38 h, q_39 h, q_40 h, ite_self, not_false_eq_true, not_true_eq_false, Nat.reduceEqDiff, reduceIte, true_and, and_true, false_and, and_false, ite_true, ite_false]; done)
    | (simp only [F261, F340_0_148, G122, G260, G261, G340_0_148, M20, zup2, zup1, zite2, zite1, upd_r, Int32.mul_comm 6 q1, q_1_6 h, q_24 h, q_25 h, q_5_0 h, q_30 h, q_31 h, q_32 h, q_33 h, q_34 h, q_37 h, q_38 h, q_39 h, q_40 h, ite_self, not_false_eq_true, not_true_eq_false, Nat.reduceEqDiff, reduceIte, true_and, and_true, false_and, and_false, ite_true, ite_false]; first | exact h12 | (intro j; have hj := h12 j; grind [zb, zo, zn, zlt_m1, zlt_0, zlt_1]) | grind [zb] | (funext b; grind [zb]))
  · simp only [F261, F340_0_148, G122, G260, G261, G340_0_148, M20, zup2, zup1, zite2, zite1, upd_r, Int32.mul_comm 6 q1, q_1_6 h, q_24 h, q_25 h, q_5_0 h, q_30 h, q_31 h, q_32 h, q_33 h, q_34 h, q_37 h, q_38 h, q_39 h, q_40 h, ite_self, not_false_eq_true, not_true_eq_false, Nat.reduceEqDiff, reduceIte, true_and, and_true, false_and, and_false, ite_true, ite_false]
    intro j; have hj := h13 j; clear h11 h12 h13 h14 h15 h16 h17 h18 h19; grind
  · first
    | exact h14
    | (simp only [F261, F340_0_148, G122, G260, G261, G340_0_148, M20, zup2, zup1, zite2, zite1, upd_r, Int32.mul_comm 6 q1, q_1_6 h, q_24 h, q_25 h, q_5_0 h, q_30 h, q_31 h, q_32 h, q_33 h, q_34 h, q_37 h, q_38 h, q_39 h, q_40 h, ite_self, not_false_eq_true, not_true_eq_false, Nat.reduceEqDiff, reduceIte, true_and, and_true, false_and, and_false, ite_true, ite_false]; done)
    | (simp only [F261, F340_0_148, G122, G260, G261, G340_0_148, M20, zup2, zup1, zite2, zite1, upd_r, Int32.mul_comm 6 q1, q_1_6 h, q_24 h, q_25 h, q_5_0 h, q_30 h, q_31 h, q_32 h, q_33 h, q_34 h, q_37 h, q_38 h, q_39 h, q_40 h, ite_self, not_false_eq_true, not_true_eq_false, Nat.reduceEqDiff, reduceIte, true_and, and_true, false_and, and_false, ite_true, ite_false]; first | exact h14 | (intro j; have hj := h14 j; grind [zb, zo, zn, zlt_m1, zlt_0, zlt_1]) | grind [zb] | (funext b; grind [zb]))
  · simp only [F261, F340_0_148, G122, G260, G261, G340_0_148, M20, zup2, zup1, zite2, zite1, upd_r, Int32.mul_comm 6 q1, q_1_6 h, q_24 h, q_25 h, q_5_0 h, q_30 h, q_31 h, q_32 h, q_33 h, q_34 h, q_37 h, q_38 h, q_39 h, q_40 h, ite_self, not_false_eq_true, not_true_eq_false, Nat.reduceEqDiff, reduceIte, true_and, and_true, false_and, and_false, ite_true, ite_false]
    intro j; have hj := h15 j; clear h11 h12 h13 h14 h15 h16 h17 h18 h19; grind
  · simp only [F261, F340_0_148, G122, G260, G261, G340_0_148, M20, zup2, zup1, zite2, zite1, upd_r, Int32.mul_comm 6 q1, q_1_6 h, q_24 h, q_25 h, q_5_0 h, q_30 h, q_31 h, q_32 h, q_33 h, q_34 h, q_37 h, q_38 h, q_39 h, q_40 h, ite_self, not_false_eq_true, not_true_eq_false, Nat.reduceEqDiff, reduceIte, true_and, and_true, false_and, and_false, ite_true, ite_false]
    intro j; have hj := h16 j; clear h11 h12 h13 h14 h15 h16 h17 h18 h19; grind
  · first
    | exact h17
    | (simp only [F261, F340_0_148, G122, G260, G261, G340_0_148, M20, zup2, zup1, zite2, zite1, upd_r, Int32.mul_comm 6 q1, q_1_6 h, q_24 h, q_25 h, q_5_0 h, q_30 h, q_31 h, q_32 h, q_33 h, q_34 h, q_37 h, q_38 h, q_39 h, q_40 h, ite_self, not_false_eq_true, not_true_eq_false, Nat.reduceEqDiff, reduceIte, true_and, and_true, false_and, and_false, ite_true, ite_false]; done)
    | (simp only [F261, F340_0_148, G122, G260, G261, G340_0_148, M20, zup2, zup1, zite2, zite1, upd_r, Int32.mul_comm 6 q1, q_1_6 h, q_24 h, q_25 h, q_5_0 h, q_30 h, q_31 h, q_32 h, q_33 h, q_34 h, q_37 h, q_38 h, q_39 h, q_40 h, ite_self, not_false_eq_true, not_true_eq_false, Nat.reduceEqDiff, reduceIte, true_and, and_true, false_and, and_false, ite_true, ite_false]; first | exact h17 | (intro j; have hj := h17 j; grind [zb, zo, zn, zlt_m1, zlt_0, zlt_1]) | grind [zb] | (funext b; grind [zb]))
  · first
    | exact h18
    | (simp only [F261, F340_0_148, G122, G260, G261, G340_0_148, M20, zup2, zup1, zite2, zite1, upd_r, Int32.mul_comm 6 q1, q_1_6 h, q_24 h, q_25 h, q_5_0 h, q_30 h, q_31 h, q_32 h, q_33 h, q_34 h, q_37 h, q_38 h, q_39 h, q_40 h, ite_self, not_false_eq_true, not_true_eq_false, Nat.reduceEqDiff, reduceIte, true_and, and_true, false_and, and_false, ite_true, ite_false]; done)
    | (simp only [F261, F340_0_148, G122, G260, G261, G340_0_148, M20, zup2, zup1, zite2, zite1, upd_r, Int32.mul_comm 6 q1, q_1_6 h, q_24 h, q_25 h, q_5_0 h, q_30 h, q_31 h, q_32 h, q_33 h, q_34 h, q_37 h, q_38 h, q_39 h, q_40 h, ite_self, not_false_eq_true, not_true_eq_false, Nat.reduceEqDiff, reduceIte, true_and, and_true, false_and, and_false, ite_true, ite_false]; first | exact h18 | (intro j; have hj := h18 j; grind [zb, zo, zn, zlt_m1, zlt_0, zlt_1]) | grind [zb] | (funext b; grind [zb]))
  · first
    | exact h19
    | (simp only [F261, F340_0_148, G122, G260, G261, G340_0_148, M20, zup2, zup1, zite2, zite1, upd_r, Int32.mul_comm 6 q1, q_1_6 h, q_24 h, q_25 h, q_5_0 h, q_30 h, q_31 h, q_32 h, q_33 h, q_34 h, q_37 h, q_38 h, q_39 h, q_40 h, ite_self, not_false_eq_true, not_true_eq_false, Nat.reduceEqDiff, reduceIte, true_and, and_true, false_and, and_false, ite_true, ite_false]; done)
    | (simp only [F261, F340_0_148, G122, G260, G261, G340_0_148, M20, zup2, zup1, zite2, zite1, upd_r, Int32.mul_comm 6 q1, q_1_6 h, q_24 h, q_25 h, q_5_0 h, q_30 h, q_31 h, q_32 h, q_33 h, q_34 h, q_37 h, q_38 h, q_39 h, q_40 h, ite_self, not_false_eq_true, not_true_eq_false, Nat.reduceEqDiff, reduceIte, true_and, and_true, false_and, and_false, ite_true, ite_false]; first | exact h19 | (intro j; have hj := h19 j; grind [zb, zo, zn, zlt_m1, zlt_0, zlt_1]) | grind [zb] | (funext b; grind [zb]))
  · first
    | exact h20
    | (simp only [F261, F340_0_148, G122, G260, G261, G340_0_148, M20, zup2, zup1, zite2, zite1, upd_r, Int32.mul_comm 6 q1, q_1_6 h, q_24 h, q_25 h, q_5_0 h, q_30 h, q_31 h, q_32 h, q_33 h, q_34 h, q_37 h, q_38 h, q_39 h, q_40 h, ite_self, not_false_eq_true, not_true_eq_false, Nat.reduceEqDiff, reduceIte, true_and, and_true, false_and, and_false, ite_true, ite_false]; done)
    | (simp only [F261, F340_0_148, G122, G260, G261, G340_0_148, M20, zup2, zup1, zite2, zite1, upd_r, Int32.mul_comm 6 q1, q_1_6 h, q_24 h, q_25 h, q_5_0 h, q_30 h, q_31 h, q_32 h, q_33 h, q_34 h, q_37 h, q_38 h, q_39 h, q_40 h, ite_self, not_false_eq_true, not_true_eq_false, Nat.reduceEqDiff, reduceIte, true_and, and_true, false_and, and_false, ite_true, ite_false]; first | exact h20 | grind [zb] | (funext b; grind [zb]))
theorem zyt20_LT {n : Nat} {S T : zS} (q1 : Int32) (q2 : Int32) (hn : n < 512) (h : zR n S T) : zLT (G340_0_148 q1 q2 S) (M20 q1 q2 T) := by
  have hr := zR_LT h
  have hk := i_Tok_10 h
  have hz := i_Tok_16 h
  unfold zLT at hr ⊢
  unfold zn at hk
  have hc : ¬ T 13 45 = 40 → (T 13 45 + 1).toInt = (T 13 45).toInt + 1 := by
    intro e
    have e4 : ¬ (T 13 45).toInt = 40 := fun e9 => e (zk_eq.mpr e9)
    rw [zk_tadd (by rw [zk_1]; omega) (by rw [zk_1]; omega), zk_1]
  simp only [M20, G261, G260, zup2, zup1, zite2, zite1, upd_r, not_false_eq_true, not_true_eq_false, Nat.reduceEqDiff, reduceIte, true_and, and_true, false_and, and_false, ite_true, ite_false]
  intro j
  have hj := hr j
  have hzj := hz (T 120 j).toNatClampNeg
  grind
