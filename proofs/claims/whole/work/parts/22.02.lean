/-! call 2: the class and the reference answer alike (wip/whole/man/02.txt) -/
theorem r2 {n : Nat} {S T : zS} (q1 : Int32) (q2 : Int32) (h : zR n S T) : ((G223 q1 q2 T) 13 0) = (F326_0_148 q1 q2 S) ∧ ((F326_0_148 q1 q2 S) = 0 → ((G326_0_148 q1 q2 S) 148 0) = (F223 q1 q2 T)) := by
  have hcl := zSeal_cl h
  have e9 := i_Seal_9 h
  have e11 := i_Seal_11 h
  have hn := i_Seal_17 h
  have hq : ¬ q1 < 1 → ¬ T 13 4 < q1 → ¬ q2 < 0 → zCnt (upd (T 82) q1.toNatClampNeg q2) = if T 82 q1.toNatClampNeg = -1 then zCnt (T 82) + 1 else zCnt (T 82) := by
    intro a1 a2 a3
    unfold zn at hn
    rw [zk_lt] at a1 a2 a3
    have b1 : (1 : Int32).toInt = 1 := rfl
    have b0 : (0 : Int32).toInt = 0 := rfl
    have b2 := zk_nat (x := q1) (by omega)
    refine zCnt_upd (by omega) (by omega) ?_
    intro e; rw [e] at a3; exact a3 (by decide)
  first
  | (simp only [F223, F326_0_148, F88, G223, G326_0_148, G88, zup2, zup1, zite2, zite1, upd_r, K95_1, K95_r, K214_1, K214_r, zcO_of, zgO_82, zCnt_82, q_1_0 h, q_1_1 h, q_1_2 h, q_1_6 h, not_false_eq_true, not_true_eq_false, Nat.reduceEqDiff, reduceIte, true_and, and_true, false_and, and_false, ite_true, ite_false]; done)
  | (simp only [F223, F326_0_148, F88, G223, G326_0_148, G88, zup2, zup1, zite2, zite1, upd_r, K95_1, K95_r, K214_1, K214_r, zcO_of, zgO_82, zCnt_82, q_1_0 h, q_1_1 h, q_1_2 h, q_1_6 h, not_false_eq_true, not_true_eq_false, Nat.reduceEqDiff, reduceIte, true_and, and_true, false_and, and_false, ite_true, ite_false]; grind [zb])
