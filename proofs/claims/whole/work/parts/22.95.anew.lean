/-! call 6: shares for a dealing anew -/
set_option maxHeartbeats 400000 in
theorem zyr6 {n : Nat} {S T : zS} (q1 : Int32) (q2 : Int32) (hn : n < 512) (h : zR n S T) : ((G227 q1 q2 T) 13 0) = (F328_0_148 q1 q2 S) ∧ ((F328_0_148 q1 q2 S) = 0 → ((G328_0_148 q1 q2 S) 148 0) = (F227 q1 q2 T)) := by
  have e9 := i_Seal_9 h
  have e10 := i_Seal_10 h
  have e11 := i_Seal_11 h
  have sf := fun a1 a2 a3 a4 => zSub_facts (q1 := q1) (q2 := q2) h a1 a2 a3 a4
  simp only [F227, F328_0_148, F90, G227, G328_0_148, G90, zup2, zup1, zite2, zite1, upd_r, K95_1, K95_r, K214_1, K214_r, zcO_of, zgO_83, zCnt_83, G216_13_0, q_1_0 h, q_1_1 h, q_1_2 h, q_1_7 h, ite_self, not_false_eq_true, not_true_eq_false, Nat.reduceEqDiff, reduceIte, true_and, and_true, false_and, and_false, ite_true, ite_false]
  first
  | done
  | (simp only [zk_lt, zk_le, zlt_m1, zlt_0, zlt_1, zlt_2, zlt_3, zlt_4, zlt_5, zlt_6, zlt_7, zlt_8, zlt_9, zlt_10, zlt_15, zlt_16, zlt_20, zlt_24, zlt_30, zlt_36, zlt_39, zlt_40, zlt_50, zlt_72, zlt_100, zlt_199, zlt_200, zlt_215, zlt_216, zlt_255, zlt_256, zlt_1000, zlt_9999, zlt_65535, zlt_1000000000, Int.lt_iff_add_one_le, zti_ite, zb_0, Decidable.not_not, zif_x1, zif_x2, zif_x3, zif_1x, zif_2x, zif_3x, zite_an, and_assoc, ite_self, not_false_eq_true, not_true_eq_false, Nat.reduceEqDiff, reduceIte, true_and, and_true, false_and, and_false, ite_true, ite_false]; done)
  | (simp only [zk_lt, zk_le, zlt_m1, zlt_0, zlt_1, zlt_2, zlt_3, zlt_4, zlt_5, zlt_6, zlt_7, zlt_8, zlt_9, zlt_10, zlt_15, zlt_16, zlt_20, zlt_24, zlt_30, zlt_36, zlt_39, zlt_40, zlt_50, zlt_72, zlt_100, zlt_199, zlt_200, zlt_215, zlt_216, zlt_255, zlt_256, zlt_1000, zlt_9999, zlt_65535, zlt_1000000000, Int.lt_iff_add_one_le, zti_ite, zb_0, Decidable.not_not, zif_x1, zif_x2, zif_x3, zif_1x, zif_2x, zif_3x, zite_an, and_assoc, ite_self, not_false_eq_true, not_true_eq_false, Nat.reduceEqDiff, reduceIte, true_and, and_true, false_and, and_false, ite_true, ite_false]; grind [zb])
  | grind [zb]
theorem zSd1 {S T A B : zS} {a : Nat} {v : Int32} (h : zSeal S T) (ho : ¬ T 13 2 = 0) (h1 : 1 ≤ a) (ha : (a : Int) ≤ (T 13 4).toInt) (hv : zn 256 v)
    (c0 : A 1 0 = S 1 0) (c1 : A 1 1 = S 1 1) (c2 : A 1 2 = S 1 2) (c15 : A 15 = upd (S 15) a v) (c5 : A 1 5 = zCnt (upd (S 15) a v)) (c6 : A 1 6 = S 1 6) (c7 : A 1 7 = S 1 7) (c8 : A 1 8 = S 1 8) (c9 : A 1 9 = S 1 9) (c10 : A 1 10 = S 1 10) (c14 : A 14 = S 14)
    (m2 : B 13 2 = T 13 2) (m3 : B 13 3 = T 13 3) (m4 : B 13 4 = T 13 4) (m5 : B 13 5 = T 13 5) (m9 : B 13 9 = T 13 9) (m10 : B 13 10 = T 13 10) (m11 : B 13 11 = T 13 11) (m12 : B 13 12 = T 13 12) (m81 : B 81 = T 81) (m82 : B 82 = T 82) (m83 : B 83 = upd (T 83) a v) : zSeal A B := by
  unfold zSeal at h ⊢
  obtain ⟨h0, h1', h2, h3, h4, h5, h6, h7, h8, h9, h10, h11, h12, h13, h14, h15, h16, h17, h18, h19, h20⟩ := h
  rw [c5, c15, c0, c1, c2, c6, c7, c8, c9, c10, c14, m2, m3, m4, m5, m9, m10, m11, m12, m81, m82, m83]
  unfold zn at hv
  have h6' : (T 13 4).toInt ≤ 6 := h17.2
  refine ⟨h0, h1', h2, h3, h4, h5, h6, h7, h8, fun e => absurd e ho, fun e => ⟨by rw [(h10 e).1], (h10 e).2⟩, rfl, ?_, ?_, ?_, h15, h16, h17, h18, h19, ?_⟩
  · intro i hi
    rw [upd_r]
    by_cases e : i = a
    · rw [if_pos e]; omega
    · rw [if_neg e]; exact h12 i hi
  · rw [upd_r, if_neg (by omega)]; exact h13
  · intro i hi hg
    rw [upd_r, if_neg (by omega)]; exact h14 i hi hg
  · intro i hi
    rw [upd_r, if_neg (by omega)]; exact h20 i hi
theorem zSd2 {A B : zS} (h0 : A 1 0 = B 13 3) (h1 : A 1 1 = B 13 4) (h2 : A 1 2 = B 13 5) (h3 : A 1 6 = B 13 2) (h4 : A 1 7 = 0) (h4' : B 13 9 = 0) (h5 : A 1 8 = B 13 10) (h6 : A 1 9 = B 13 11) (h7 : A 1 10 = B 13 12) (h8 : A 14 = B 81) (ho : ¬ B 13 2 = 0) (h15 : A 15 = zNo) (h82 : B 82 = zNo) (h83 : B 83 = zNo) (hc : A 1 5 = 0) (z2 : zo (B 13 2)) (z4 : zn 6 (B 13 4)) (z5 : zn 6 (B 13 5)) (z11 : zn 6 (B 13 11) ∧ zn 6 (B 13 12)) : zSeal A B := by
  unfold zSeal
  refine ⟨h0, h1, h2, h3, by rw [h4, h4'], h5, h6, h7, h8, fun e => absurd e ho, fun _ => ⟨by rw [h15, h83], h82⟩, by rw [hc, h15, zCnt_no], ?_, by rw [h15, zNo_lt (by omega)], ?_, z2, Or.inl h4', z4, z5, z11, ?_⟩
  · intro i hi
    rw [h15, zNo_lt hi]; decide
  · intro i hi _
    rw [h15, zNo_lt hi]
  · intro i hi
    rw [h15, zNo_ge hi]
theorem zGen2 {a b c a' b' c' : Int32} {S B : zS} (ha : a = a') (hb : b = b') (hc : c = c') (h14 : S 14 = B 81) (h0 : S 1 0 = B 13 3) : G87 a b c S 14 = G216 a' b' c' B 81 := by
  rw [ha, hb, hc]; exact zGen h14 h0
set_option maxHeartbeats 1000000 in
theorem zyt6_Seal {n : Nat} {S T : zS} (q1 : Int32) (q2 : Int32) (hn : n < 512) (h : zR n S T) : zSeal (G328_0_148 q1 q2 S) (M6 q1 q2 T) := by
  have hs := zR_Seal h
  have hthr : ∀ v : Int32, zSeal S (z_up T 13 0 v) := fun v => zSeal_km rfl (zkp_upf (l := [13]) (fl := [13000]) zkp_S rfl rfl) hs
  have n1 : ¬ (1 : Int32) = 0 := by decide
  have n2 : ¬ (2 : Int32) = 0 := by decide
  have n3 : ¬ (3 : Int32) = 0 := by decide
  unfold M6 G328_0_148 G227
  rw [q_1_1 h, q_1_7 h]
  by_cases c1 : (¬ q1 < 1) ∧ ¬ T 13 4 < q1
  case neg => simp only [if_neg c1, if_neg n1]; with_reducible exact hthr 1
  by_cases c2 : (¬ q2 < 0) ∧ ¬ 256 < q2
  case neg => simp only [if_pos c1, if_neg c2, if_neg n2]; with_reducible exact hthr 2
  by_cases c3 : T 13 9 = 0
  · simp only [if_pos c1, if_pos c2, if_pos c3, if_neg (fun e : ¬ T 13 9 = 0 => e c3), if_neg n3]; with_reducible exact hthr 3
  simp only [if_pos c1, if_pos c2, if_neg c3, if_pos c3, reduceIte]
  obtain ⟨f1, f2, f3, f4, f5, f6, f7, f8, f9⟩ := zSub_facts h c1.1 c1.2 c2.1 c2.2
  have hop : ¬ T 13 2 = 0 := fun e => c3 (i_Seal_9 h e).1
  obtain ⟨g1, g2⟩ := i_Seal_10 h hop
  have h19 := i_Seal_19 h
  have h15 := i_Seal_15 h
  have h11 := i_Seal_11 h
  have hcl := zSeal_cl h
  unfold G90
  have e5 : (if S 15 q1.toNatClampNeg = -1 then z_up S 1 5 (S 1 5 + 1) else S) 1 5 = zCnt (upd (T 83) q1.toNatClampNeg q2) := by
    rw [← g1, f4, zite2, zup2, if_pos rfl, if_pos rfl, h11]
  have e15 : (if S 15 q1.toNatClampNeg = -1 then z_up S 1 5 (S 1 5 + 1) else S) 15 = S 15 := by
    simp only [zite1, zup1, Nat.reduceEqDiff, reduceIte, ite_self]
  have e14 : (if S 15 q1.toNatClampNeg = -1 then z_up S 1 5 (S 1 5 + 1) else S) 14 = S 14 := by
    simp only [zite1, zup1, Nat.reduceEqDiff, reduceIte, ite_self]
  have e1 : ∀ i, ¬ i = 5 → (if S 15 q1.toNatClampNeg = -1 then z_up S 1 5 (S 1 5 + 1) else S) 1 i = S 1 i := by
    intro i hi
    rw [zite2, zup2, if_pos rfl, if_neg hi, ite_self]
  generalize (if S 15 q1.toNatClampNeg = -1 then z_up S 1 5 (S 1 5 + 1) else S) = X at *
  have w83 : z_up (z_up T 13 0 0) 83 q1.toNatClampNeg q2 83 = upd (T 83) q1.toNatClampNeg q2 := by rw [zup1, if_pos rfl, zup1, if_neg (by decide)]
  have x15 : z_up X 15 q1.toNatClampNeg q2 15 = upd (T 83) q1.toNatClampNeg q2 := by rw [zup1, if_pos rfl, e15, g1]
  have x11 : z_up X 15 q1.toNatClampNeg q2 1 1 = T 13 4 := by rw [zup2, if_neg (by decide), e1 1 (by decide), q_1_1 h]
  have zc15 : zcl (upd (T 83) q1.toNatClampNeg q2) = zNo := f3
  have hz : zrem (zgO (upd (T 83) q1.toNatClampNeg q2)) 257 = zcO (upd (T 83) q1.toNatClampNeg q2) (T 13 4).toNatClampNeg := by rw [← g1]; exact f5
  rw [zCnt_83, w83, e5, q_1_2 h, zcO_of, zgO_83, w83, x15, x11, q_1_0 h, hz]
  by_cases d1 : T 13 5 ≤ zCnt (upd (T 83) q1.toNatClampNeg q2)
  · rw [if_pos d1, if_pos d1]
    by_cases d2 : zcO (upd (T 83) q1.toNatClampNeg q2) (T 13 4).toNatClampNeg = T 13 3
    · rw [if_pos d2, if_pos d2]
      refine zSd2 ?_ ?_ ?_ ?_ ?_ ?_ ?_ ?_ ?_ ?_ ?_ ?_ ?_ ?_ ?_ ?_ ?_ ?_ ?_
      · simp only [G87_1_0, G87_1_1, G87_1_2, G87_1_5, G87_1_6, G87_1_7, G87_1_8, G87_1_9, G87_1_10, G87_15, G216_13_0, G216_13_2, G216_13_3, G216_13_4, G216_13_5, G216_13_9, G216_13_10, G216_13_11, G216_13_12, G216_82, G216_83, K95_1, K95_r, K214_1, K214_r, zup2, zup1, Nat.reduceEqDiff, reduceIte, e1 0 (by decide), q_1_0 h, e1 8 (by decide), q_1_8 h]
      · simp only [G87_1_0, G87_1_1, G87_1_2, G87_1_5, G87_1_6, G87_1_7, G87_1_8, G87_1_9, G87_1_10, G87_15, G216_13_0, G216_13_2, G216_13_3, G216_13_4, G216_13_5, G216_13_9, G216_13_10, G216_13_11, G216_13_12, G216_82, G216_83, K95_1, K95_r, K214_1, K214_r, zup2, zup1, Nat.reduceEqDiff, reduceIte, e1 9 (by decide), q_1_9 h]
      · simp only [G87_1_0, G87_1_1, G87_1_2, G87_1_5, G87_1_6, G87_1_7, G87_1_8, G87_1_9, G87_1_10, G87_15, G216_13_0, G216_13_2, G216_13_3, G216_13_4, G216_13_5, G216_13_9, G216_13_10, G216_13_11, G216_13_12, G216_82, G216_83, K95_1, K95_r, K214_1, K214_r, zup2, zup1, Nat.reduceEqDiff, reduceIte, e1 10 (by decide), q_1_10 h]
      · simp only [G87_1_0, G87_1_1, G87_1_2, G87_1_5, G87_1_6, G87_1_7, G87_1_8, G87_1_9, G87_1_10, G87_15, G216_13_0, G216_13_2, G216_13_3, G216_13_4, G216_13_5, G216_13_9, G216_13_10, G216_13_11, G216_13_12, G216_82, G216_83, K95_1, K95_r, K214_1, K214_r, zup2, zup1, Nat.reduceEqDiff, reduceIte, e1 6 (by decide), q_1_6 h]
      · simp only [G87_1_0, G87_1_1, G87_1_2, G87_1_5, G87_1_6, G87_1_7, G87_1_8, G87_1_9, G87_1_10, G87_15, G216_13_0, G216_13_2, G216_13_3, G216_13_4, G216_13_5, G216_13_9, G216_13_10, G216_13_11, G216_13_12, G216_82, G216_83, K95_1, K95_r, K214_1, K214_r, zup2, zup1, Nat.reduceEqDiff, reduceIte]
      · simp only [G87_1_0, G87_1_1, G87_1_2, G87_1_5, G87_1_6, G87_1_7, G87_1_8, G87_1_9, G87_1_10, G87_15, G216_13_0, G216_13_2, G216_13_3, G216_13_4, G216_13_5, G216_13_9, G216_13_10, G216_13_11, G216_13_12, G216_82, G216_83, K95_1, K95_r, K214_1, K214_r, zup2, zup1, Nat.reduceEqDiff, reduceIte]
      · simp only [G87_1_0, G87_1_1, G87_1_2, G87_1_5, G87_1_6, G87_1_7, G87_1_8, G87_1_9, G87_1_10, G87_15, G216_13_0, G216_13_2, G216_13_3, G216_13_4, G216_13_5, G216_13_9, G216_13_10, G216_13_11, G216_13_12, G216_82, G216_83, K95_1, K95_r, K214_1, K214_r, zup2, zup1, Nat.reduceEqDiff, reduceIte, e1 8 (by decide), q_1_8 h]
      · simp only [G87_1_0, G87_1_1, G87_1_2, G87_1_5, G87_1_6, G87_1_7, G87_1_8, G87_1_9, G87_1_10, G87_15, G216_13_0, G216_13_2, G216_13_3, G216_13_4, G216_13_5, G216_13_9, G216_13_10, G216_13_11, G216_13_12, G216_82, G216_83, K95_1, K95_r, K214_1, K214_r, zup2, zup1, Nat.reduceEqDiff, reduceIte, e1 9 (by decide), q_1_9 h]
      · simp only [G87_1_0, G87_1_1, G87_1_2, G87_1_5, G87_1_6, G87_1_7, G87_1_8, G87_1_9, G87_1_10, G87_15, G216_13_0, G216_13_2, G216_13_3, G216_13_4, G216_13_5, G216_13_9, G216_13_10, G216_13_11, G216_13_12, G216_82, G216_83, K95_1, K95_r, K214_1, K214_r, zup2, zup1, Nat.reduceEqDiff, reduceIte, e1 10 (by decide), q_1_10 h]
      · exact zGen2 (by simp only [G87_1_0, G87_1_1, G87_1_2, G87_1_5, G87_1_6, G87_1_7, G87_1_8, G87_1_9, G87_1_10, G87_15, G216_13_0, G216_13_2, G216_13_3, G216_13_4, G216_13_5, G216_13_9, G216_13_10, G216_13_11, G216_13_12, G216_82, G216_83, K95_1, K95_r, K214_1, K214_r, zup2, zup1, Nat.reduceEqDiff, reduceIte, e1 8 (by decide), q_1_8 h]) (by simp only [G87_1_0, G87_1_1, G87_1_2, G87_1_5, G87_1_6, G87_1_7, G87_1_8, G87_1_9, G87_1_10, G87_15, G216_13_0, G216_13_2, G216_13_3, G216_13_4, G216_13_5, G216_13_9, G216_13_10, G216_13_11, G216_13_12, G216_82, G216_83, K95_1, K95_r, K214_1, K214_r, zup2, zup1, Nat.reduceEqDiff, reduceIte, e1 9 (by decide), q_1_9 h]) (by simp only [G87_1_0, G87_1_1, G87_1_2, G87_1_5, G87_1_6, G87_1_7, G87_1_8, G87_1_9, G87_1_10, G87_15, G216_13_0, G216_13_2, G216_13_3, G216_13_4, G216_13_5, G216_13_9, G216_13_10, G216_13_11, G216_13_12, G216_82, G216_83, K95_1, K95_r, K214_1, K214_r, zup2, zup1, Nat.reduceEqDiff, reduceIte, e1 10 (by decide), q_1_10 h]) (by simp only [G87_1_0, G87_1_1, G87_1_2, G87_1_5, G87_1_6, G87_1_7, G87_1_8, G87_1_9, G87_1_10, G87_15, G216_13_0, G216_13_2, G216_13_3, G216_13_4, G216_13_5, G216_13_9, G216_13_10, G216_13_11, G216_13_12, G216_82, G216_83, K95_1, K95_r, K214_1, K214_r, zup2, zup1, Nat.reduceEqDiff, reduceIte, e14, q_14 h]) (by simp only [G87_1_0, G87_1_1, G87_1_2, G87_1_5, G87_1_6, G87_1_7, G87_1_8, G87_1_9, G87_1_10, G87_15, G216_13_0, G216_13_2, G216_13_3, G216_13_4, G216_13_5, G216_13_9, G216_13_10, G216_13_11, G216_13_12, G216_82, G216_83, K95_1, K95_r, K214_1, K214_r, zup2, zup1, Nat.reduceEqDiff, reduceIte, e1 0 (by decide), q_1_0 h])
      · (simp only [G87_1_0, G87_1_1, G87_1_2, G87_1_5, G87_1_6, G87_1_7, G87_1_8, G87_1_9, G87_1_10, G87_15, G216_13_0, G216_13_2, G216_13_3, G216_13_4, G216_13_5, G216_13_9, G216_13_10, G216_13_11, G216_13_12, G216_82, G216_83, K95_1, K95_r, K214_1, K214_r, zup2, zup1, Nat.reduceEqDiff, reduceIte]); with_reducible exact hop
      · (simp only [G87_1_0, G87_1_1, G87_1_2, G87_1_5, G87_1_6, G87_1_7, G87_1_8, G87_1_9, G87_1_10, G87_15, G216_13_0, G216_13_2, G216_13_3, G216_13_4, G216_13_5, G216_13_9, G216_13_10, G216_13_11, G216_13_12, G216_82, G216_83, K95_1, K95_r, K214_1, K214_r, zup2, zup1, Nat.reduceEqDiff, reduceIte, e15, g1]); with_reducible exact zc15
      · (simp only [G87_1_0, G87_1_1, G87_1_2, G87_1_5, G87_1_6, G87_1_7, G87_1_8, G87_1_9, G87_1_10, G87_15, G216_13_0, G216_13_2, G216_13_3, G216_13_4, G216_13_5, G216_13_9, G216_13_10, G216_13_11, G216_13_12, G216_82, G216_83, K95_1, K95_r, K214_1, K214_r, zup2, zup1, Nat.reduceEqDiff, reduceIte]); with_reducible exact hcl.2.1
      · (simp only [G87_1_0, G87_1_1, G87_1_2, G87_1_5, G87_1_6, G87_1_7, G87_1_8, G87_1_9, G87_1_10, G87_15, G216_13_0, G216_13_2, G216_13_3, G216_13_4, G216_13_5, G216_13_9, G216_13_10, G216_13_11, G216_13_12, G216_82, G216_83, K95_1, K95_r, K214_1, K214_r, zup2, zup1, Nat.reduceEqDiff, reduceIte]); with_reducible exact f3
      · simp only [G87_1_0, G87_1_1, G87_1_2, G87_1_5, G87_1_6, G87_1_7, G87_1_8, G87_1_9, G87_1_10, G87_15, G216_13_0, G216_13_2, G216_13_3, G216_13_4, G216_13_5, G216_13_9, G216_13_10, G216_13_11, G216_13_12, G216_82, G216_83, K95_1, K95_r, K214_1, K214_r, zup2, zup1, Nat.reduceEqDiff, reduceIte]
      · (simp only [G87_1_0, G87_1_1, G87_1_2, G87_1_5, G87_1_6, G87_1_7, G87_1_8, G87_1_9, G87_1_10, G87_15, G216_13_0, G216_13_2, G216_13_3, G216_13_4, G216_13_5, G216_13_9, G216_13_10, G216_13_11, G216_13_12, G216_82, G216_83, K95_1, K95_r, K214_1, K214_r, zup2, zup1, Nat.reduceEqDiff, reduceIte]); with_reducible exact h15
      · (simp only [G87_1_0, G87_1_1, G87_1_2, G87_1_5, G87_1_6, G87_1_7, G87_1_8, G87_1_9, G87_1_10, G87_15, G216_13_0, G216_13_2, G216_13_3, G216_13_4, G216_13_5, G216_13_9, G216_13_10, G216_13_11, G216_13_12, G216_82, G216_83, K95_1, K95_r, K214_1, K214_r, zup2, zup1, Nat.reduceEqDiff, reduceIte]); with_reducible exact h19.1
      · (simp only [G87_1_0, G87_1_1, G87_1_2, G87_1_5, G87_1_6, G87_1_7, G87_1_8, G87_1_9, G87_1_10, G87_15, G216_13_0, G216_13_2, G216_13_3, G216_13_4, G216_13_5, G216_13_9, G216_13_10, G216_13_11, G216_13_12, G216_82, G216_83, K95_1, K95_r, K214_1, K214_r, zup2, zup1, Nat.reduceEqDiff, reduceIte]); with_reducible exact h19.2
      · (simp only [G87_1_0, G87_1_1, G87_1_2, G87_1_5, G87_1_6, G87_1_7, G87_1_8, G87_1_9, G87_1_10, G87_15, G216_13_0, G216_13_2, G216_13_3, G216_13_4, G216_13_5, G216_13_9, G216_13_10, G216_13_11, G216_13_12, G216_82, G216_83, K95_1, K95_r, K214_1, K214_r, zup2, zup1, Nat.reduceEqDiff, reduceIte]); with_reducible exact h19
    · rw [if_neg d2, if_neg d2]
      refine zSd2 ?_ ?_ ?_ ?_ ?_ ?_ ?_ ?_ ?_ ?_ ?_ ?_ ?_ ?_ ?_ ?_ ?_ ?_ ?_
      · simp only [G87_1_0, G87_1_1, G87_1_2, G87_1_5, G87_1_6, G87_1_7, G87_1_8, G87_1_9, G87_1_10, G87_15, G216_13_0, G216_13_2, G216_13_3, G216_13_4, G216_13_5, G216_13_9, G216_13_10, G216_13_11, G216_13_12, G216_82, G216_83, K95_1, K95_r, K214_1, K214_r, zup2, zup1, Nat.reduceEqDiff, reduceIte, e1 0 (by decide), q_1_0 h]
      · simp only [G87_1_0, G87_1_1, G87_1_2, G87_1_5, G87_1_6, G87_1_7, G87_1_8, G87_1_9, G87_1_10, G87_15, G216_13_0, G216_13_2, G216_13_3, G216_13_4, G216_13_5, G216_13_9, G216_13_10, G216_13_11, G216_13_12, G216_82, G216_83, K95_1, K95_r, K214_1, K214_r, zup2, zup1, Nat.reduceEqDiff, reduceIte, e1 1 (by decide), q_1_1 h]
      · simp only [G87_1_0, G87_1_1, G87_1_2, G87_1_5, G87_1_6, G87_1_7, G87_1_8, G87_1_9, G87_1_10, G87_15, G216_13_0, G216_13_2, G216_13_3, G216_13_4, G216_13_5, G216_13_9, G216_13_10, G216_13_11, G216_13_12, G216_82, G216_83, K95_1, K95_r, K214_1, K214_r, zup2, zup1, Nat.reduceEqDiff, reduceIte, e1 2 (by decide), q_1_2 h]
      · simp only [G87_1_0, G87_1_1, G87_1_2, G87_1_5, G87_1_6, G87_1_7, G87_1_8, G87_1_9, G87_1_10, G87_15, G216_13_0, G216_13_2, G216_13_3, G216_13_4, G216_13_5, G216_13_9, G216_13_10, G216_13_11, G216_13_12, G216_82, G216_83, K95_1, K95_r, K214_1, K214_r, zup2, zup1, Nat.reduceEqDiff, reduceIte, e1 6 (by decide), q_1_6 h]
      · simp only [G87_1_0, G87_1_1, G87_1_2, G87_1_5, G87_1_6, G87_1_7, G87_1_8, G87_1_9, G87_1_10, G87_15, G216_13_0, G216_13_2, G216_13_3, G216_13_4, G216_13_5, G216_13_9, G216_13_10, G216_13_11, G216_13_12, G216_82, G216_83, K95_1, K95_r, K214_1, K214_r, zup2, zup1, Nat.reduceEqDiff, reduceIte]
      · simp only [G87_1_0, G87_1_1, G87_1_2, G87_1_5, G87_1_6, G87_1_7, G87_1_8, G87_1_9, G87_1_10, G87_15, G216_13_0, G216_13_2, G216_13_3, G216_13_4, G216_13_5, G216_13_9, G216_13_10, G216_13_11, G216_13_12, G216_82, G216_83, K95_1, K95_r, K214_1, K214_r, zup2, zup1, Nat.reduceEqDiff, reduceIte]
      · simp only [G87_1_0, G87_1_1, G87_1_2, G87_1_5, G87_1_6, G87_1_7, G87_1_8, G87_1_9, G87_1_10, G87_15, G216_13_0, G216_13_2, G216_13_3, G216_13_4, G216_13_5, G216_13_9, G216_13_10, G216_13_11, G216_13_12, G216_82, G216_83, K95_1, K95_r, K214_1, K214_r, zup2, zup1, Nat.reduceEqDiff, reduceIte, e1 8 (by decide), q_1_8 h]
      · simp only [G87_1_0, G87_1_1, G87_1_2, G87_1_5, G87_1_6, G87_1_7, G87_1_8, G87_1_9, G87_1_10, G87_15, G216_13_0, G216_13_2, G216_13_3, G216_13_4, G216_13_5, G216_13_9, G216_13_10, G216_13_11, G216_13_12, G216_82, G216_83, K95_1, K95_r, K214_1, K214_r, zup2, zup1, Nat.reduceEqDiff, reduceIte, e1 9 (by decide), q_1_9 h]
      · simp only [G87_1_0, G87_1_1, G87_1_2, G87_1_5, G87_1_6, G87_1_7, G87_1_8, G87_1_9, G87_1_10, G87_15, G216_13_0, G216_13_2, G216_13_3, G216_13_4, G216_13_5, G216_13_9, G216_13_10, G216_13_11, G216_13_12, G216_82, G216_83, K95_1, K95_r, K214_1, K214_r, zup2, zup1, Nat.reduceEqDiff, reduceIte, e1 10 (by decide), q_1_10 h]
      · simp only [G87_1_0, G87_1_1, G87_1_2, G87_1_5, G87_1_6, G87_1_7, G87_1_8, G87_1_9, G87_1_10, G87_15, G216_13_0, G216_13_2, G216_13_3, G216_13_4, G216_13_5, G216_13_9, G216_13_10, G216_13_11, G216_13_12, G216_82, G216_83, K95_1, K95_r, K214_1, K214_r, zup2, zup1, Nat.reduceEqDiff, reduceIte, e14, q_14 h]
      · (simp only [G87_1_0, G87_1_1, G87_1_2, G87_1_5, G87_1_6, G87_1_7, G87_1_8, G87_1_9, G87_1_10, G87_15, G216_13_0, G216_13_2, G216_13_3, G216_13_4, G216_13_5, G216_13_9, G216_13_10, G216_13_11, G216_13_12, G216_82, G216_83, K95_1, K95_r, K214_1, K214_r, zup2, zup1, Nat.reduceEqDiff, reduceIte]); with_reducible exact hop
      · (simp only [G87_1_0, G87_1_1, G87_1_2, G87_1_5, G87_1_6, G87_1_7, G87_1_8, G87_1_9, G87_1_10, G87_15, G216_13_0, G216_13_2, G216_13_3, G216_13_4, G216_13_5, G216_13_9, G216_13_10, G216_13_11, G216_13_12, G216_82, G216_83, K95_1, K95_r, K214_1, K214_r, zup2, zup1, Nat.reduceEqDiff, reduceIte, e15, g1]); with_reducible exact zc15
      · (simp only [G87_1_0, G87_1_1, G87_1_2, G87_1_5, G87_1_6, G87_1_7, G87_1_8, G87_1_9, G87_1_10, G87_15, G216_13_0, G216_13_2, G216_13_3, G216_13_4, G216_13_5, G216_13_9, G216_13_10, G216_13_11, G216_13_12, G216_82, G216_83, K95_1, K95_r, K214_1, K214_r, zup2, zup1, Nat.reduceEqDiff, reduceIte]); with_reducible exact hcl.2.1
      · (simp only [G87_1_0, G87_1_1, G87_1_2, G87_1_5, G87_1_6, G87_1_7, G87_1_8, G87_1_9, G87_1_10, G87_15, G216_13_0, G216_13_2, G216_13_3, G216_13_4, G216_13_5, G216_13_9, G216_13_10, G216_13_11, G216_13_12, G216_82, G216_83, K95_1, K95_r, K214_1, K214_r, zup2, zup1, Nat.reduceEqDiff, reduceIte]); with_reducible exact f3
      · simp only [G87_1_0, G87_1_1, G87_1_2, G87_1_5, G87_1_6, G87_1_7, G87_1_8, G87_1_9, G87_1_10, G87_15, G216_13_0, G216_13_2, G216_13_3, G216_13_4, G216_13_5, G216_13_9, G216_13_10, G216_13_11, G216_13_12, G216_82, G216_83, K95_1, K95_r, K214_1, K214_r, zup2, zup1, Nat.reduceEqDiff, reduceIte]
      · (simp only [G87_1_0, G87_1_1, G87_1_2, G87_1_5, G87_1_6, G87_1_7, G87_1_8, G87_1_9, G87_1_10, G87_15, G216_13_0, G216_13_2, G216_13_3, G216_13_4, G216_13_5, G216_13_9, G216_13_10, G216_13_11, G216_13_12, G216_82, G216_83, K95_1, K95_r, K214_1, K214_r, zup2, zup1, Nat.reduceEqDiff, reduceIte]); with_reducible exact h15
      · (simp only [G87_1_0, G87_1_1, G87_1_2, G87_1_5, G87_1_6, G87_1_7, G87_1_8, G87_1_9, G87_1_10, G87_15, G216_13_0, G216_13_2, G216_13_3, G216_13_4, G216_13_5, G216_13_9, G216_13_10, G216_13_11, G216_13_12, G216_82, G216_83, K95_1, K95_r, K214_1, K214_r, zup2, zup1, Nat.reduceEqDiff, reduceIte]); with_reducible exact i_Seal_17 h
      · (simp only [G87_1_0, G87_1_1, G87_1_2, G87_1_5, G87_1_6, G87_1_7, G87_1_8, G87_1_9, G87_1_10, G87_15, G216_13_0, G216_13_2, G216_13_3, G216_13_4, G216_13_5, G216_13_9, G216_13_10, G216_13_11, G216_13_12, G216_82, G216_83, K95_1, K95_r, K214_1, K214_r, zup2, zup1, Nat.reduceEqDiff, reduceIte]); with_reducible exact i_Seal_18 h
      · (simp only [G87_1_0, G87_1_1, G87_1_2, G87_1_5, G87_1_6, G87_1_7, G87_1_8, G87_1_9, G87_1_10, G87_15, G216_13_0, G216_13_2, G216_13_3, G216_13_4, G216_13_5, G216_13_9, G216_13_10, G216_13_11, G216_13_12, G216_82, G216_83, K95_1, K95_r, K214_1, K214_r, zup2, zup1, Nat.reduceEqDiff, reduceIte]); with_reducible exact h19
  · rw [if_neg d1, if_neg d1]
    refine zSd1 hs hop f6 f8 f9 ?_ ?_ ?_ ?_ ?_ ?_ ?_ ?_ ?_ ?_ ?_ ?_ ?_ ?_ ?_ ?_ ?_ ?_ ?_ ?_ ?_ ?_
    · simp only [G87_1_0, G87_1_1, G87_1_2, G87_1_5, G87_1_6, G87_1_7, G87_1_8, G87_1_9, G87_1_10, G87_15, G216_13_0, G216_13_2, G216_13_3, G216_13_4, G216_13_5, G216_13_9, G216_13_10, G216_13_11, G216_13_12, G216_82, G216_83, K95_1, K95_r, K214_1, K214_r, zup2, zup1, Nat.reduceEqDiff, reduceIte, e1 0 (by decide)]
    · simp only [G87_1_0, G87_1_1, G87_1_2, G87_1_5, G87_1_6, G87_1_7, G87_1_8, G87_1_9, G87_1_10, G87_15, G216_13_0, G216_13_2, G216_13_3, G216_13_4, G216_13_5, G216_13_9, G216_13_10, G216_13_11, G216_13_12, G216_82, G216_83, K95_1, K95_r, K214_1, K214_r, zup2, zup1, Nat.reduceEqDiff, reduceIte, e1 1 (by decide)]
    · simp only [G87_1_0, G87_1_1, G87_1_2, G87_1_5, G87_1_6, G87_1_7, G87_1_8, G87_1_9, G87_1_10, G87_15, G216_13_0, G216_13_2, G216_13_3, G216_13_4, G216_13_5, G216_13_9, G216_13_10, G216_13_11, G216_13_12, G216_82, G216_83, K95_1, K95_r, K214_1, K214_r, zup2, zup1, Nat.reduceEqDiff, reduceIte, e1 2 (by decide)]
    · simp only [G87_1_0, G87_1_1, G87_1_2, G87_1_5, G87_1_6, G87_1_7, G87_1_8, G87_1_9, G87_1_10, G87_15, G216_13_0, G216_13_2, G216_13_3, G216_13_4, G216_13_5, G216_13_9, G216_13_10, G216_13_11, G216_13_12, G216_82, G216_83, K95_1, K95_r, K214_1, K214_r, zup2, zup1, Nat.reduceEqDiff, reduceIte, e15]
    · simp only [G87_1_0, G87_1_1, G87_1_2, G87_1_5, G87_1_6, G87_1_7, G87_1_8, G87_1_9, G87_1_10, G87_15, G216_13_0, G216_13_2, G216_13_3, G216_13_4, G216_13_5, G216_13_9, G216_13_10, G216_13_11, G216_13_12, G216_82, G216_83, K95_1, K95_r, K214_1, K214_r, zup2, zup1, Nat.reduceEqDiff, reduceIte, e5, g1]
    · simp only [G87_1_0, G87_1_1, G87_1_2, G87_1_5, G87_1_6, G87_1_7, G87_1_8, G87_1_9, G87_1_10, G87_15, G216_13_0, G216_13_2, G216_13_3, G216_13_4, G216_13_5, G216_13_9, G216_13_10, G216_13_11, G216_13_12, G216_82, G216_83, K95_1, K95_r, K214_1, K214_r, zup2, zup1, Nat.reduceEqDiff, reduceIte, e1 6 (by decide)]
    · simp only [G87_1_0, G87_1_1, G87_1_2, G87_1_5, G87_1_6, G87_1_7, G87_1_8, G87_1_9, G87_1_10, G87_15, G216_13_0, G216_13_2, G216_13_3, G216_13_4, G216_13_5, G216_13_9, G216_13_10, G216_13_11, G216_13_12, G216_82, G216_83, K95_1, K95_r, K214_1, K214_r, zup2, zup1, Nat.reduceEqDiff, reduceIte, e1 7 (by decide)]
    · simp only [G87_1_0, G87_1_1, G87_1_2, G87_1_5, G87_1_6, G87_1_7, G87_1_8, G87_1_9, G87_1_10, G87_15, G216_13_0, G216_13_2, G216_13_3, G216_13_4, G216_13_5, G216_13_9, G216_13_10, G216_13_11, G216_13_12, G216_82, G216_83, K95_1, K95_r, K214_1, K214_r, zup2, zup1, Nat.reduceEqDiff, reduceIte, e1 8 (by decide)]
    · simp only [G87_1_0, G87_1_1, G87_1_2, G87_1_5, G87_1_6, G87_1_7, G87_1_8, G87_1_9, G87_1_10, G87_15, G216_13_0, G216_13_2, G216_13_3, G216_13_4, G216_13_5, G216_13_9, G216_13_10, G216_13_11, G216_13_12, G216_82, G216_83, K95_1, K95_r, K214_1, K214_r, zup2, zup1, Nat.reduceEqDiff, reduceIte, e1 9 (by decide)]
    · simp only [G87_1_0, G87_1_1, G87_1_2, G87_1_5, G87_1_6, G87_1_7, G87_1_8, G87_1_9, G87_1_10, G87_15, G216_13_0, G216_13_2, G216_13_3, G216_13_4, G216_13_5, G216_13_9, G216_13_10, G216_13_11, G216_13_12, G216_82, G216_83, K95_1, K95_r, K214_1, K214_r, zup2, zup1, Nat.reduceEqDiff, reduceIte, e1 10 (by decide)]
    · simp only [G87_1_0, G87_1_1, G87_1_2, G87_1_5, G87_1_6, G87_1_7, G87_1_8, G87_1_9, G87_1_10, G87_15, G216_13_0, G216_13_2, G216_13_3, G216_13_4, G216_13_5, G216_13_9, G216_13_10, G216_13_11, G216_13_12, G216_82, G216_83, K95_1, K95_r, K214_1, K214_r, zup2, zup1, Nat.reduceEqDiff, reduceIte, e14]
    · simp only [G87_1_0, G87_1_1, G87_1_2, G87_1_5, G87_1_6, G87_1_7, G87_1_8, G87_1_9, G87_1_10, G87_15, G216_13_0, G216_13_2, G216_13_3, G216_13_4, G216_13_5, G216_13_9, G216_13_10, G216_13_11, G216_13_12, G216_82, G216_83, K95_1, K95_r, K214_1, K214_r, zup2, zup1, Nat.reduceEqDiff, reduceIte]
    · simp only [G87_1_0, G87_1_1, G87_1_2, G87_1_5, G87_1_6, G87_1_7, G87_1_8, G87_1_9, G87_1_10, G87_15, G216_13_0, G216_13_2, G216_13_3, G216_13_4, G216_13_5, G216_13_9, G216_13_10, G216_13_11, G216_13_12, G216_82, G216_83, K95_1, K95_r, K214_1, K214_r, zup2, zup1, Nat.reduceEqDiff, reduceIte]
    · simp only [G87_1_0, G87_1_1, G87_1_2, G87_1_5, G87_1_6, G87_1_7, G87_1_8, G87_1_9, G87_1_10, G87_15, G216_13_0, G216_13_2, G216_13_3, G216_13_4, G216_13_5, G216_13_9, G216_13_10, G216_13_11, G216_13_12, G216_82, G216_83, K95_1, K95_r, K214_1, K214_r, zup2, zup1, Nat.reduceEqDiff, reduceIte]
    · simp only [G87_1_0, G87_1_1, G87_1_2, G87_1_5, G87_1_6, G87_1_7, G87_1_8, G87_1_9, G87_1_10, G87_15, G216_13_0, G216_13_2, G216_13_3, G216_13_4, G216_13_5, G216_13_9, G216_13_10, G216_13_11, G216_13_12, G216_82, G216_83, K95_1, K95_r, K214_1, K214_r, zup2, zup1, Nat.reduceEqDiff, reduceIte]
    · simp only [G87_1_0, G87_1_1, G87_1_2, G87_1_5, G87_1_6, G87_1_7, G87_1_8, G87_1_9, G87_1_10, G87_15, G216_13_0, G216_13_2, G216_13_3, G216_13_4, G216_13_5, G216_13_9, G216_13_10, G216_13_11, G216_13_12, G216_82, G216_83, K95_1, K95_r, K214_1, K214_r, zup2, zup1, Nat.reduceEqDiff, reduceIte]
    · simp only [G87_1_0, G87_1_1, G87_1_2, G87_1_5, G87_1_6, G87_1_7, G87_1_8, G87_1_9, G87_1_10, G87_15, G216_13_0, G216_13_2, G216_13_3, G216_13_4, G216_13_5, G216_13_9, G216_13_10, G216_13_11, G216_13_12, G216_82, G216_83, K95_1, K95_r, K214_1, K214_r, zup2, zup1, Nat.reduceEqDiff, reduceIte]
    · simp only [G87_1_0, G87_1_1, G87_1_2, G87_1_5, G87_1_6, G87_1_7, G87_1_8, G87_1_9, G87_1_10, G87_15, G216_13_0, G216_13_2, G216_13_3, G216_13_4, G216_13_5, G216_13_9, G216_13_10, G216_13_11, G216_13_12, G216_82, G216_83, K95_1, K95_r, K214_1, K214_r, zup2, zup1, Nat.reduceEqDiff, reduceIte]
    · simp only [G87_1_0, G87_1_1, G87_1_2, G87_1_5, G87_1_6, G87_1_7, G87_1_8, G87_1_9, G87_1_10, G87_15, G216_13_0, G216_13_2, G216_13_3, G216_13_4, G216_13_5, G216_13_9, G216_13_10, G216_13_11, G216_13_12, G216_82, G216_83, K95_1, K95_r, K214_1, K214_r, zup2, zup1, Nat.reduceEqDiff, reduceIte]
    · simp only [G87_1_0, G87_1_1, G87_1_2, G87_1_5, G87_1_6, G87_1_7, G87_1_8, G87_1_9, G87_1_10, G87_15, G216_13_0, G216_13_2, G216_13_3, G216_13_4, G216_13_5, G216_13_9, G216_13_10, G216_13_11, G216_13_12, G216_82, G216_83, K95_1, K95_r, K214_1, K214_r, zup2, zup1, Nat.reduceEqDiff, reduceIte]
    · simp only [G87_1_0, G87_1_1, G87_1_2, G87_1_5, G87_1_6, G87_1_7, G87_1_8, G87_1_9, G87_1_10, G87_15, G216_13_0, G216_13_2, G216_13_3, G216_13_4, G216_13_5, G216_13_9, G216_13_10, G216_13_11, G216_13_12, G216_82, G216_83, K95_1, K95_r, K214_1, K214_r, zup2, zup1, Nat.reduceEqDiff, reduceIte]
    · simp only [G87_1_0, G87_1_1, G87_1_2, G87_1_5, G87_1_6, G87_1_7, G87_1_8, G87_1_9, G87_1_10, G87_15, G216_13_0, G216_13_2, G216_13_3, G216_13_4, G216_13_5, G216_13_9, G216_13_10, G216_13_11, G216_13_12, G216_82, G216_83, K95_1, K95_r, K214_1, K214_r, zup2, zup1, Nat.reduceEqDiff, reduceIte]
