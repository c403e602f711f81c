/-! call 45: the class and the reference answer alike (wip/whole/man/45.txt) -/
theorem zyr45 {n : Nat} {S T : zS} (q1 : Int32) (hn : n < 512) (h : zR n S T) : ((G311 q1 T) 13 0) = (F364_0_148 q1 S) ∧ ((F364_0_148 q1 S) = 0 → ((G364_0_148 q1 S) 148 0) = (zb (((zb (¬ ((¬ (q1 < 0)) ∧ (¬ (((T 13 79) - 1) < q1))))) = 0) ∧ ((T 142 q1.toNatClampNeg) = 0)))) := by
  first
  | (simp only [F364_0_148, G311, G364_0_148, zup2, zup1, zite2, zite1, upd_r, zt_le (zn_mono (i_Cer_6 h) (by decide)), q_11_0 h, q_75 h, ite_self, not_false_eq_true, not_true_eq_false, Nat.reduceEqDiff, reduceIte, true_and, and_true, false_and, and_false, ite_true, ite_false]; done)
  | (simp only [F364_0_148, G311, G364_0_148, zup2, zup1, zite2, zite1, upd_r, zt_le (zn_mono (i_Cer_6 h) (by decide)), q_11_0 h, q_75 h, ite_self, not_false_eq_true, not_true_eq_false, Nat.reduceEqDiff, reduceIte, true_and, and_true, false_and, and_false, ite_true, ite_false]; grind [zb])
theorem zyt45_Cer {n : Nat} {S T : zS} (q1 : Int32) (hn : n < 512) (h : zR n S T) : zCer (G364_0_148 q1 S) (M45 q1 T) := by
  have hr := zR_Cer h
  unfold zCer at hr ⊢
  obtain ⟨h0, h1, h2, h3, h4, h5, h6, h7, h8, h9, h10⟩ := hr
  refine ⟨?_, ?_, ?_, ?_, ?_, ?_, ?_, ?_, ?_, ?_, ?_⟩
  · first
    | exact h0
    | (simp only [F364_0_148, G311, G364_0_148, M45, zup2, zup1, zite2, zite1, upd_r, zt_le (zn_mono (i_Cer_6 h) (by decide)), q_11_0 h, q_72 h, q_73 h, q_74 h, q_75 h, q_76 h, ite_self, not_false_eq_true, not_true_eq_false, Nat.reduceEqDiff, reduceIte, true_and, and_true, false_and, and_false, ite_true, ite_false]; done)
    | (simp only [F364_0_148, G311, G364_0_148, M45, zup2, zup1, zite2, zite1, upd_r, zt_le (zn_mono (i_Cer_6 h) (by decide)), q_11_0 h, q_72 h, q_73 h, q_74 h, q_75 h, q_76 h, ite_self, not_false_eq_true, not_true_eq_false, Nat.reduceEqDiff, reduceIte, true_and, and_true, false_and, and_false, ite_true, ite_false]; first | exact h0 | grind [zb] | (funext b; grind [zb]))
  · first
    | exact h1
    | (simp only [F364_0_148, G311, G364_0_148, M45, zup2, zup1, zite2, zite1, upd_r, zt_le (zn_mono (i_Cer_6 h) (by decide)), q_11_0 h, q_72 h, q_73 h, q_74 h, q_75 h, q_76 h, ite_self, not_false_eq_true, not_true_eq_false, Nat.reduceEqDiff, reduceIte, true_and, and_true, false_and, and_false, ite_true, ite_false]; done)
    | (simp only [F364_0_148, G311, G364_0_148, M45, zup2, zup1, zite2, zite1, upd_r, zt_le (zn_mono (i_Cer_6 h) (by decide)), q_11_0 h, q_72 h, q_73 h, q_74 h, q_75 h, q_76 h, ite_self, not_false_eq_true, not_true_eq_false, Nat.reduceEqDiff, reduceIte, true_and, and_true, false_and, and_false, ite_true, ite_false]; first | exact h1 | grind [zb] | (funext b; grind [zb]))
  · first
    | exact h2
    | (simp only [F364_0_148, G311, G364_0_148, M45, zup2, zup1, zite2, zite1, upd_r, zt_le (zn_mono (i_Cer_6 h) (by decide)), q_11_0 h, q_72 h, q_73 h, q_74 h, q_75 h, q_76 h, ite_self, not_false_eq_true, not_true_eq_false, Nat.reduceEqDiff, reduceIte, true_and, and_true, false_and, and_false, ite_true, ite_false]; done)
    | (simp only [F364_0_148, G311, G364_0_148, M45, zup2, zup1, zite2, zite1, upd_r, zt_le (zn_mono (i_Cer_6 h) (by decide)), q_11_0 h, q_72 h, q_73 h, q_74 h, q_75 h, q_76 h, ite_self, not_false_eq_true, not_true_eq_false, Nat.reduceEqDiff, reduceIte, true_and, and_true, false_and, and_false, ite_true, ite_false]; first | exact h2 | grind [zb] | (funext b; grind [zb]))
  · first
    | exact h3
    | (simp only [F364_0_148, G311, G364_0_148, M45, zup2, zup1, zite2, zite1, upd_r, zt_le (zn_mono (i_Cer_6 h) (by decide)), q_11_0 h, q_72 h, q_73 h, q_74 h, q_75 h, q_76 h, ite_self, not_false_eq_true, not_true_eq_false, Nat.reduceEqDiff, reduceIte, true_and, and_true, false_and, and_false, ite_true, ite_false]; done)
    | (simp only [F364_0_148, G311, G364_0_148, M45, zup2, zup1, zite2, zite1, upd_r, zt_le (zn_mono (i_Cer_6 h) (by decide)), q_11_0 h, q_72 h, q_73 h, q_74 h, q_75 h, q_76 h, ite_self, not_false_eq_true, not_true_eq_false, Nat.reduceEqDiff, reduceIte, true_and, and_true, false_and, and_false, ite_true, ite_false]; first | exact h3 | grind [zb] | (funext b; grind [zb]))
  · first
    | exact h4
    | (simp only [F364_0_148, G311, G364_0_148, M45, zup2, zup1, zite2, zite1, upd_r, zt_le (zn_mono (i_Cer_6 h) (by decide)), q_11_0 h, q_72 h, q_73 h, q_74 h, q_75 h, q_76 h, ite_self, not_false_eq_true, not_true_eq_false, Nat.reduceEqDiff, reduceIte, true_and, and_true, false_and, and_false, ite_true, ite_false]; done)
    | (simp only [F364_0_148, G311, G364_0_148, M45, zup2, zup1, zite2, zite1, upd_r, zt_le (zn_mono (i_Cer_6 h) (by decide)), q_11_0 h, q_72 h, q_73 h, q_74 h, q_75 h, q_76 h, ite_self, not_false_eq_true, not_true_eq_false, Nat.reduceEqDiff, reduceIte, true_and, and_true, false_and, and_false, ite_true, ite_false]; first | exact h4 | grind [zb] | (funext b; grind [zb]))
  · first
    | exact h5
    | (simp only [F364_0_148, G311, G364_0_148, M45, zup2, zup1, zite2, zite1, upd_r, zt_le (zn_mono (i_Cer_6 h) (by decide)), q_11_0 h, q_72 h, q_73 h, q_74 h, q_75 h, q_76 h, ite_self, not_false_eq_true, not_true_eq_false, Nat.reduceEqDiff, reduceIte, true_and, and_true, false_and, and_false, ite_true, ite_false]; done)
    | (simp only [F364_0_148, G311, G364_0_148, M45, zup2, zup1, zite2, zite1, upd_r, zt_le (zn_mono (i_Cer_6 h) (by decide)), q_11_0 h, q_72 h, q_73 h, q_74 h, q_75 h, q_76 h, ite_self, not_false_eq_true, not_true_eq_false, Nat.reduceEqDiff, reduceIte, true_and, and_true, false_and, and_false, ite_true, ite_false]; first | exact h5 | grind [zb] | (funext b; grind [zb]))
  · first
    | exact h6
    | (simp only [F364_0_148, G311, G364_0_148, M45, zup2, zup1, zite2, zite1, upd_r, zt_le (zn_mono (i_Cer_6 h) (by decide)), q_11_0 h, q_72 h, q_73 h, q_74 h, q_75 h, q_76 h, ite_self, not_false_eq_true, not_true_eq_false, Nat.reduceEqDiff, reduceIte, true_and, and_true, false_and, and_false, ite_true, ite_false]; done)
    | (simp only [F364_0_148, G311, G364_0_148, M45, zup2, zup1, zite2, zite1, upd_r, zt_le (zn_mono (i_Cer_6 h) (by decide)), q_11_0 h, q_72 h, q_73 h, q_74 h, q_75 h, q_76 h, ite_self, not_false_eq_true, not_true_eq_false, Nat.reduceEqDiff, reduceIte, true_and, and_true, false_and, and_false, ite_true, ite_false]; first | exact h6 | grind [zb] | (funext b; grind [zb]))
  · first
    | exact h7
    | (simp only [F364_0_148, G311, G364_0_148, M45, zup2, zup1, zite2, zite1, upd_r, zt_le (zn_mono (i_Cer_6 h) (by decide)), q_11_0 h, q_72 h, q_73 h, q_74 h, q_75 h, q_76 h, ite_self, not_false_eq_true, not_true_eq_false, Nat.reduceEqDiff, reduceIte, true_and, and_true, false_and, and_false, ite_true, ite_false]; done)
    | (simp only [F364_0_148, G311, G364_0_148, M45, zup2, zup1, zite2, zite1, upd_r, zt_le (zn_mono (i_Cer_6 h) (by decide)), q_11_0 h, q_72 h, q_73 h, q_74 h, q_75 h, q_76 h, ite_self, not_false_eq_true, not_true_eq_false, Nat.reduceEqDiff, reduceIte, true_and, and_true, false_and, and_false, ite_true, ite_false]; first | exact h7 | (intro j; have hj := h7 j; grind [zb, zo, zn, zlt_m1, zlt_0, zlt_1]) | grind [zb] | (funext b; grind [zb]))
  · first
    | exact h8
    | (simp only [F364_0_148, G311, G364_0_148, M45, zup2, zup1, zite2, zite1, upd_r, zt_le (zn_mono (i_Cer_6 h) (by decide)), q_11_0 h, q_72 h, q_73 h, q_74 h, q_75 h, q_76 h, ite_self, not_false_eq_true, not_true_eq_false, Nat.reduceEqDiff, reduceIte, true_and, and_true, false_and, and_false, ite_true, ite_false]; done)
    | (simp only [F364_0_148, G311, G364_0_148, M45, zup2, zup1, zite2, zite1, upd_r, zt_le (zn_mono (i_Cer_6 h) (by decide)), q_11_0 h, q_72 h, q_73 h, q_74 h, q_75 h, q_76 h, ite_self, not_false_eq_true, not_true_eq_false, Nat.reduceEqDiff, reduceIte, true_and, and_true, false_and, and_false, ite_true, ite_false]; first | exact h8 | (intro j; have hj := h8 j; grind [zb, zo, zn, zlt_m1, zlt_0, zlt_1]) | grind [zb] | (funext b; grind [zb]))
  · first
    | exact h9
    | (simp only [F364_0_148, G311, G364_0_148, M45, zup2, zup1, zite2, zite1, upd_r, zt_le (zn_mono (i_Cer_6 h) (by decide)), q_11_0 h, q_72 h, q_73 h, q_74 h, q_75 h, q_76 h, ite_self, not_false_eq_true, not_true_eq_false, Nat.reduceEqDiff, reduceIte, true_and, and_true, false_and, and_false, ite_true, ite_false]; done)
    | (simp only [F364_0_148, G311, G364_0_148, M45, zup2, zup1, zite2, zite1, upd_r, zt_le (zn_mono (i_Cer_6 h) (by decide)), q_11_0 h, q_72 h, q_73 h, q_74 h, q_75 h, q_76 h, ite_self, not_false_eq_true, not_true_eq_false, Nat.reduceEqDiff, reduceIte, true_and, and_true, false_and, and_false, ite_true, ite_false]; first | exact h9 | (intro j; have hj := h9 j; grind [zb, zo, zn, zlt_m1, zlt_0, zlt_1]) | grind [zb] | (funext b; grind [zb]))
  · first
    | exact h10
    | (simp only [F364_0_148, G311, G364_0_148, M45, zup2, zup1, zite2, zite1, upd_r, zt_le (zn_mono (i_Cer_6 h) (by decide)), q_11_0 h, q_72 h, q_73 h, q_74 h, q_75 h, q_76 h, ite_self, not_false_eq_true, not_true_eq_false, Nat.reduceEqDiff, reduceIte, true_and, and_true, false_and, and_false, ite_true, ite_false]; done)
    | (simp only [F364_0_148, G311, G364_0_148, M45, zup2, zup1, zite2, zite1, upd_r, zt_le (zn_mono (i_Cer_6 h) (by decide)), q_11_0 h, q_72 h, q_73 h, q_74 h, q_75 h, q_76 h, ite_self, not_false_eq_true, not_true_eq_false, Nat.reduceEqDiff, reduceIte, true_and, and_true, false_and, and_false, ite_true, ite_false]; first | exact h10 | (intro j; have hj := h10 j; grind [zb, zo, zn, zlt_m1, zlt_0, zlt_1]) | grind [zb] | (funext b; grind [zb]))
