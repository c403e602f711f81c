/-! the law: 25.01.dies (wip/p57/gen) -/

theorem jv154 {n : Nat} {S : zS} (hn : n < 490) (w : jLaw n S) {a : Int32} (ha : 0 ≤ a.toInt ∧ a.toInt < (S 5 0).toInt) : jLaw n (B154 a S) ∧ (if S 40 a.toNatClampNeg = 0 then 1 ≤ (A154 a S).toInt ∧ (A154 a S).toInt ≤ (S 5 0).toInt else A154 a S = 0) ∧ ¬ B154 a S 40 a.toNatClampNeg = 0 ∧ B154 a S 5 0 = S 5 0 ∧ B154 a S 13 = S 13 := by
  obtain ⟨h1, h2, h3⟩ := jq154 (by omega) w.1 ha
  have hp := p_B154 a S
  exact ⟨⟨h1, jCx_k rfl hp w.2.1, jE_k rfl rfl hp w.2.2⟩, h2, h3, congrFun (hp.1 5 rfl) 0, hp.1 13 rfl⟩
theorem jA156 {a : Int32} {S : zS} : A156 a S = zb (S 40 a.toNatClampNeg = 0) := rfl

set_option maxRecDepth 100000 in
theorem q330 {L : Nat} (a b : Int32) {S : zS} {n : Nat} (hn : n < 480) (w : jLaw n S) (ha : 0 ≤ a.toInt ∧ a.toInt < (S 5 0).toInt) : ∃ S', zf L 330 [.inr (.inr 0), .inr (.inr 13), .inl a, .inl b] S (.inl (some (.inl 1)), S', 0) ∧ jLaw (n + 6) S' := by
  refine zH_f (en_330 _ _ _ _) ?_
  have hT := (rTok_0 (jI_Tok w.1)).1
  have k1 := jcx1 w.2.1
  have hna := zk_nat ha.1
  have hnt := zk_nat hT
  refine zH_pre (zr_2_0 i330_0 (zr_1_2 i330_1 (zt_rfl))) ?_
  have hP : jP156 a S := ⟨jI_n (by omega) w.1, jdem ha.1 ha.2⟩
  refine zH_call (zs_21_1 i330_2 na_156 ob_0 rfl) (y156 a S hP) ?_
  have f := (show (A156 a S) = zb (S 40 a.toNatClampNeg = 0) from rfl)
  generalize (A156 a S) = r at f ⊢
  have hr := f
  clear f
  refine zH_pre (zr_3_4 i330_3 (zr_1_3 i330_4 (zr_0 i330_5 kc_4 (zr_13_4 i330_6 nz_4 (zt_rfl))))) ?_
  by_cases c4 : ((zrem b 4) ≤ 0)
  · refine zH_pre (zt_cast (zr_18_5 i330_7 (fun _ => zt_rfl) (fun _ => zt_rfl)) (if_pos c4)) ?_
    refine zH_pre (zr_2_0 i330_23 (zr_1_2 i330_24 (zt_rfl))) ?_
    have hP : jP154 a S := ⟨jI_n (by omega) w.1, jdem ha.1 ha.2⟩
    refine zH_call (zs_21_1 i330_25 na_154 ob_0 rfl) (y154 a S hP) ?_
    have f := jv154 (by omega) w ha
    generalize (B154 a S) = S1 at f ⊢
    generalize (A154 a S) = m at f ⊢
    obtain ⟨w1, h2, h3, h5, h13⟩ := f
    refine zH_pre (zr_3_5 i330_26 (zr_1_4 i330_27 (zt_rfl))) ?_
    by_cases cr : (r = 0)
    · refine zH_pre (zt_cast (zr_18_0 i330_28 (fun _ => zt_rfl) (fun _ => zt_rfl)) (if_pos cr)) ?_
      rw [cr] at hr
      rw [if_neg ((zb_0 _).mp hr.symm)] at h2
      refine zH_pre (zr_1_5 i330_38 (zt_rfl)) ?_
      have hc : (m = 0) := h2
      refine zH_pre (zt_cast (zr_18_1 i330_39 (fun _ => zt_rfl) (fun _ => zt_rfl)) (if_pos hc)) ?_
      clear hc
      refine zH_pre (zr_2_0 i330_40 (zr_1_2 i330_41 (zt_rfl))) ?_
      have hP : jP156 a S1 := ⟨jI_n (by omega) w1.1, jdem ha.1 (by rw [h5]; exact ha.2)⟩
      refine zH_call (zs_21_1 i330_42 na_156 ob_0 rfl) (y156 a S1 hP) ?_
      have f := (show (A156 a S1) = 0 from (zb_0 _).mpr h3)
      generalize (A156 a S1) = r2 at f ⊢
      have hc : (r2 = 0) := f
      refine zH_pre (zt_cast (zr_18_1 i330_43 (fun _ => zt_rfl) (fun _ => zt_rfl)) (if_pos hc)) ?_
      clear hc
      refine zH_pre (zr_2_0 i330_44 (zr_1_2 i330_45 (zt_rfl))) ?_
      have hP : jP154 a S1 := ⟨jI_n (by omega) w1.1, jdem ha.1 (by rw [h5]; exact ha.2)⟩
      refine zH_call (zs_21_1 i330_46 na_154 ob_0 rfl) (y154 a S1 hP) ?_
      have f := jv154 (by omega) w1 (show 0 ≤ a.toInt ∧ a.toInt < (S1 5 0).toInt from ⟨ha.1, by rw [h5]; exact ha.2⟩)
      generalize (B154 a S1) = S2 at f ⊢
      generalize (A154 a S1) = m2 at f ⊢
      obtain ⟨w2, h22, _, _, _⟩ := f
      rw [if_neg h3] at h22
      have hc : (m2 = 0) := h22
      refine zH_pre (zt_cast (zr_18_1 i330_47 (fun _ => zt_rfl) (fun _ => zt_rfl)) (if_pos hc)) ?_
      clear hc
      refine zH_pre (zr_0 i330_48 kc_1 (zr_17 i330_49 (zt_rfl))) ?_
      exact zH_ret (zr_26 i330_51 zo_1) ⟨rfl, jLaw_u (by omega) w2⟩
    · refine zH_pre (zt_cast (zr_18_0 i330_28 (fun _ => zt_rfl) (fun _ => zt_rfl)) (if_neg cr)) ?_
      have hal : S 40 a.toNatClampNeg = 0 := by
        by_cases h9 : S 40 a.toNatClampNeg = 0
        · exact h9
        · exact absurd (hr.trans ((zb_0 _).mpr h9)) cr
      rw [if_pos hal] at h2
      refine zH_pre (zr_1_5 i330_29 (zr_0 i330_30 kc_1 (zt_rfl))) ?_
      have hc : ¬ (m < 1) := by rw [zk_lt, zk_1]; omega
      refine zH_pre (zt_cast (zr_19_2 i330_31 (fun _ => zt_rfl) (fun _ => zt_rfl)) (if_neg hc)) ?_
      clear hc
      refine zH_pre (zr_1_5 i330_32 (zr_2_1 i330_33 (zr_0 i330_34 kc_1 (zr_8 i330_35 ar_13 (zx_9_1) kt_1 rfl (zt_rfl))))) ?_
      have hc : ¬ ((S1 13 1) < m) := by rw [h13, k1, zk_lt]; omega
      refine zH_pre (zt_cast (zr_19_4 i330_36 (fun _ => zt_rfl) (fun _ => zt_rfl)) (if_neg hc)) ?_
      clear hc
      refine zH_pre (zr_17 i330_37 (zr_2_0 i330_40 (zr_1_2 i330_41 (zt_rfl)))) ?_
      have hP : jP156 a S1 := ⟨jI_n (by omega) w1.1, jdem ha.1 (by rw [h5]; exact ha.2)⟩
      refine zH_call (zs_21_1 i330_42 na_156 ob_0 rfl) (y156 a S1 hP) ?_
      have f := (show (A156 a S1) = 0 from (zb_0 _).mpr h3)
      generalize (A156 a S1) = r2 at f ⊢
      have hc : (r2 = 0) := f
      refine zH_pre (zt_cast (zr_18_1 i330_43 (fun _ => zt_rfl) (fun _ => zt_rfl)) (if_pos hc)) ?_
      clear hc
      refine zH_pre (zr_2_0 i330_44 (zr_1_2 i330_45 (zt_rfl))) ?_
      have hP : jP154 a S1 := ⟨jI_n (by omega) w1.1, jdem ha.1 (by rw [h5]; exact ha.2)⟩
      refine zH_call (zs_21_1 i330_46 na_154 ob_0 rfl) (y154 a S1 hP) ?_
      have f := jv154 (by omega) w1 (show 0 ≤ a.toInt ∧ a.toInt < (S1 5 0).toInt from ⟨ha.1, by rw [h5]; exact ha.2⟩)
      generalize (B154 a S1) = S2 at f ⊢
      generalize (A154 a S1) = m2 at f ⊢
      obtain ⟨w2, h22, _, _, _⟩ := f
      rw [if_neg h3] at h22
      have hc : (m2 = 0) := h22
      refine zH_pre (zt_cast (zr_18_1 i330_47 (fun _ => zt_rfl) (fun _ => zt_rfl)) (if_pos hc)) ?_
      clear hc
      refine zH_pre (zr_0 i330_48 kc_1 (zr_17 i330_49 (zt_rfl))) ?_
      exact zH_ret (zr_26 i330_51 zo_1) ⟨rfl, jLaw_u (by omega) w2⟩
  · refine zH_pre (zt_cast (zr_18_5 i330_7 (fun _ => zt_rfl) (fun _ => zt_rfl)) (if_neg c4)) ?_
    refine zH_pre (zr_2_0 i330_8 (zr_1_2 i330_9 (zt_rfl))) ?_
    have hP : jP155 a S := ⟨jI_n (by omega) w.1, jdem ha.1 ha.2⟩
    refine zH_call (zs_21_1 i330_10 na_155 ob_0 rfl) (y155 a S hP) ?_
    have f := (show (A155 a S) = S 37 a.toNatClampNeg from rfl)
    generalize (A155 a S) = u at f ⊢
    have hu := f
    refine zH_pre (zr_0 i330_11 kc_m1 (zt_rfl)) ?_
    have hc : ¬ (u < (-1)) := by rw [hu, zk_lt, jk_m1]; have := (rTok_5 (jI_Tok w.1)) a.toNatClampNeg; omega
    refine zH_pre (zt_cast (zr_19_2 i330_12 (fun _ => zt_rfl) (fun _ => zt_rfl)) (if_neg hc)) ?_
    clear hc
    refine zH_pre (zr_2_0 i330_13 (zr_1_2 i330_14 (zt_rfl))) ?_
    have hP : jP155 a S := ⟨jI_n (by omega) w.1, jdem ha.1 ha.2⟩
    refine zH_call (zs_21_1 i330_15 na_155 ob_0 rfl) (y155 a S hP) ?_
    have f := (show (A155 a S) = S 37 a.toNatClampNeg from rfl)
    generalize (A155 a S) = u2 at f ⊢
    have hu2 := f
    by_cases cu : (u2 = 0)
    · refine zH_pre (zt_cast (zr_18_1 i330_16 (fun _ => zt_rfl) (fun _ => zt_rfl)) (if_pos cu)) ?_
      refine zH_pre (zr_1_4 i330_17 (zt_rfl)) ?_
      have hc : (r = 0) := by rw [hr]; exact (zb_0 _).mpr (fun e => jI_Use w.1 a.toNatClampNeg (by omega) e (hu2.symm.trans cu))
      refine zH_pre (zt_cast (zr_18_1 i330_18 (fun _ => zt_rfl) (fun _ => zt_rfl)) (if_pos hc)) ?_
      clear hc
      refine zH_pre (zr_0 i330_19 kc_1 (zr_17 i330_20 (zt_rfl))) ?_
      exact zH_ret (zr_26 i330_22 zo_1) ⟨rfl, jLaw_u (by omega) w⟩
    · refine zH_pre (zt_cast (zr_18_1 i330_16 (fun _ => zt_rfl) (fun _ => zt_rfl)) (if_neg cu)) ?_
      refine zH_pre (zr_0 i330_19 kc_1 (zr_17 i330_20 (zt_rfl))) ?_
      exact zH_ret (zr_26 i330_22 zo_1) ⟨rfl, jLaw_u (by omega) w⟩
