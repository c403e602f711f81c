/-! the law: 25.04.cases (wip/p57/gen) -/

theorem jv172 {n : Nat} {S : zS} (hn : n < 490) (w : jLaw n S) {a b c : Int32} (ha : zn 39 a) (hc : 0 ≤ c.toInt ∧ c.toInt < (S 10 4).toInt) : jLaw (n + 1) (B172 a b c S) ∧ B172 a b c S 10 = S 10 ∧ B172 a b c S 32 = S 32 ∧ (jRef (A172 a b c S) ∨ (1 ≤ (A172 a b c S).toInt ∧ (A172 a b c S).toInt ≤ 8 ∧ A172 a b c S = F322 ((S 70 c.toNatClampNeg) ||| (zshl 1 (S 32 a.toNatClampNeg))) S ∧ B172 a b c S 70 c.toNatClampNeg = ((S 70 c.toNatClampNeg) ||| (zshl 1 (S 32 a.toNatClampNeg))))) := by
  obtain ⟨h1, h2, h3⟩ := jq172 (by omega) w.1 (b := b) ha.1 hc.1 hc.2
  have hp := p_B172 a b c S
  exact ⟨⟨h1, jCx_k rfl hp w.2.1, jE_k rfl rfl hp w.2.2⟩, hp.1 10 rfl, h2, h3⟩
theorem jv173 {n : Nat} {S : zS} (hn : n < 490) (w : jLaw n S) {a b c : Int32} (ha : zn 39 a) (hc : 0 ≤ c.toInt ∧ c.toInt < (S 10 4).toInt) : jLaw (n + 1) (B173 a b c S) ∧ B173 a b c S 10 = S 10 ∧ (jRef (A173 a b c S) ∨ (zn 9999 (A173 a b c S) ∧ S 71 c.toNatClampNeg = 0 ∧ B173 a b c S 71 c.toNatClampNeg = 1)) := by
  obtain ⟨h1, h2⟩ := jq173 (by omega) w.1 (b := b) ha.1 hc.1 hc.2
  have hp := p_B173 a b c S
  exact ⟨⟨h1, jCx_k rfl hp w.2.1, jE_k rfl rfl hp w.2.2⟩, hp.1 10 rfl, h2⟩

set_option maxRecDepth 100000 in
theorem q334b {L : Nat} (a b c d : Int32) (u7 u8 : Option zV) {S : zS} {n : Nat} (hn : n < 482) (w : jLaw n S) (ha : zn 39 a) (hb : 0 ≤ b.toInt ∧ b.toInt < 4) (hc : 0 ≤ c.toInt ∧ c.toInt < (S 10 4).toInt) : zH L 334 (44, [some (.inr (.inr 0)), some (.inr (.inr 13)), some (.inl a), some (.inl b), some (.inl c), some (.inl d), some (.inl 1), u7, u8], [], S) (jQ (fun S' => jLaw (n + 4) S')) := by
  refine zH_pre (zr_2_0 i334_44 (zr_1_2 i334_45 (zr_1_3 i334_46 (zr_1_4 i334_47 (zt_rfl))))) ?_
  have hP : jP173 a b c S := ⟨jI_n (by omega) w.1, ha, jdem hc.1 hc.2, by simp only [zk_lt, zk_le, zk_1, jk_0, jk_2, jk_3, jk_4, jk_5, jk_6, jk_7, jk_8, jk_10, jk_11, jk_13, jk_14, jk_15, jk_16, jk_18, jk_20, jk_24, jk_25, jk_36, jk_40, jk_50, jk_64, jk_72, jk_100, jk_120, jk_200, jk_201, jk_216, jk_255, jk_256, jk_257, jk_512, jk_1000, jk_2048, jk_9999, jk_10000, jk_65521, jk_65536, jk_104729, jk_2147483647, jk_m1, jk_m2, jk_m3, jk_m4, jk_m5, jk_m6, jk_m7, jk_m8, jk_m9, jk_m10, jk_m11, jk_m12, jk_m13, jk_m14]; omega⟩
  refine zH_call (zs_21_3 i334_48 na_173 ob_0 rfl) (y173 a b c S hP) ?_
  have f := jv173 (b := b) (by omega) w ha hc
  generalize (B173 a b c S) = S1 at f ⊢
  generalize (A173 a b c S) = r at f ⊢
  obtain ⟨w1, h10, h⟩ := f
  refine zH_pre (zr_3_7 i334_49 (zr_1_6 i334_50 (zt_rfl))) ?_
  refine zH_pre (zr_18f_0 i334_51 (by decide) zt_rfl) ?_
  refine zH_pre (zr_1_7 i334_52 (zr_0 i334_53 kc_m1 (zt_rfl))) ?_
  by_cases hr : ((-1) ≤ r)
  · refine zH_pre (zt_cast (zr_19_3 i334_54 (fun _ => zt_rfl) (fun _ => zt_rfl)) (if_pos hr)) ?_
    obtain ⟨h1, h2, h3⟩ := h.resolve_left (fun e => by rw [zk_le, jk_m1] at hr; have := e.2; omega)
    have hc1 : 0 ≤ c.toInt ∧ c.toInt < (S1 10 4).toInt := by rw [h10]; exact hc
    refine zH_pre (zr_1_7 i334_58 (zt_rfl)) ?_
    have hc : ¬ (r < 0) := by rw [zk_lt, jk_0]; have := h1.1; omega
    refine zH_pre (zt_cast (zr_18_2 i334_59 (fun _ => zt_rfl) (fun _ => zt_rfl)) (if_neg hc)) ?_
    clear hc
    refine zH_pre (zr_1_7 i334_60 (zr_0 i334_61 kc_10000 (zt_rfl))) ?_
    have hc : ¬ (10000 ≤ r) := by rw [zk_le, jk_10000]; have := h1.2; omega
    refine zH_pre (zt_cast (zr_19_3 i334_62 (fun _ => zt_rfl) (fun _ => zt_rfl)) (if_neg hc)) ?_
    clear hc
    refine zH_pre (zr_2_0 i334_63 (zr_1_2 i334_64 (zr_1_3 i334_65 (zr_1_4 i334_66 (zt_rfl))))) ?_
    have hP : jP173 a b c S1 := ⟨jI_n (by omega) w1.1, ha, jdem hc1.1 hc1.2, by simp only [zk_lt, zk_le, zk_1, jk_0, jk_2, jk_3, jk_4, jk_5, jk_6, jk_7, jk_8, jk_10, jk_11, jk_13, jk_14, jk_15, jk_16, jk_18, jk_20, jk_24, jk_25, jk_36, jk_40, jk_50, jk_64, jk_72, jk_100, jk_120, jk_200, jk_201, jk_216, jk_255, jk_256, jk_257, jk_512, jk_1000, jk_2048, jk_9999, jk_10000, jk_65521, jk_65536, jk_104729, jk_2147483647, jk_m1, jk_m2, jk_m3, jk_m4, jk_m5, jk_m6, jk_m7, jk_m8, jk_m9, jk_m10, jk_m11, jk_m12, jk_m13, jk_m14]; omega⟩
    refine zH_call (zs_21_3 i334_67 na_173 ob_0 rfl) (y173 a b c S1 hP) ?_
    have f := jv173 (b := b) (by omega) w1 ha hc1
    generalize (B173 a b c S1) = S2 at f ⊢
    generalize (A173 a b c S1) = r2 at f ⊢
    obtain ⟨w2, i10, k⟩ := f
    have k1 := k.resolve_right (fun e => by rw [h3] at e; exact absurd e.2.1 (by decide))
    refine zH_pre (zr_0 i334_68 kc_m1 (zt_rfl)) ?_
    have hc : ¬ ((-1) ≤ r2) := by rw [zk_le, jk_m1]; have := k1.2; omega
    refine zH_pre (zt_cast (zr_19_3 i334_69 (fun _ => zt_rfl) (fun _ => zt_rfl)) (if_neg hc)) ?_
    clear hc
    refine zH_pre (zr_2_0 i334_70 (zt_rfl)) ?_
    have hP : jP174  S2 := jI_n (by omega) w2.1
    refine zH_call (zs_21_0 i334_71 na_174 ob_0 rfl) (y174  S2 hP) ?_
    have f := (show (A174 S2) = S2 10 4 from rfl)
    generalize (A174 S2) = cs at f ⊢
    refine zH_pre (zr_2_1 i334_72 (zr_0 i334_73 kc_4 (zr_8 i334_74 ar_13 (zx_9_4) kt_4 rfl (zt_rfl)))) ?_
    have hc : (cs = (S2 13 4)) := f.trans (jcx4 w2.2.1).symm
    refine zH_pre (zt_cast (zr_19_1 i334_75 (fun _ => zt_rfl) (fun _ => zt_rfl)) (if_pos hc)) ?_
    clear hc
    refine zH_pre (zr_0 i334_76 kc_1 (zr_17 i334_77 (zt_rfl))) ?_
    exact zH_ret (zr_26 i334_79 zo_1) ⟨rfl, jLaw_u (by omega) w2⟩
  · refine zH_pre (zt_cast (zr_19_3 i334_54 (fun _ => zt_rfl) (fun _ => zt_rfl)) (if_neg hr)) ?_
    have h1 := h.resolve_right (fun e => hr (by rw [zk_le, jk_m1]; have := e.1.1; omega))
    refine zH_pre (zr_1_7 i334_55 (zr_0 i334_56 kc_m14 (zt_rfl))) ?_
    have hc : ((-14) < r) := by rw [zk_lt, jk_m14]; have := h1.1; omega
    refine zH_pre (zt_cast (zr_19_4 i334_57 (fun _ => zt_rfl) (fun _ => zt_rfl)) (if_pos hc)) ?_
    clear hc
    refine zH_pre (zr_2_0 i334_70 (zt_rfl)) ?_
    have hP : jP174  S1 := jI_n (by omega) w1.1
    refine zH_call (zs_21_0 i334_71 na_174 ob_0 rfl) (y174  S1 hP) ?_
    have f := (show (A174 S1) = S1 10 4 from rfl)
    generalize (A174 S1) = cs at f ⊢
    refine zH_pre (zr_2_1 i334_72 (zr_0 i334_73 kc_4 (zr_8 i334_74 ar_13 (zx_9_4) kt_4 rfl (zt_rfl)))) ?_
    have hc : (cs = (S1 13 4)) := f.trans (jcx4 w1.2.1).symm
    refine zH_pre (zt_cast (zr_19_1 i334_75 (fun _ => zt_rfl) (fun _ => zt_rfl)) (if_pos hc)) ?_
    clear hc
    refine zH_pre (zr_0 i334_76 kc_1 (zr_17 i334_77 (zt_rfl))) ?_
    exact zH_ret (zr_26 i334_79 zo_1) ⟨rfl, jLaw_u (by omega) w1⟩
set_option maxRecDepth 100000 in
theorem q334 {L : Nat} (a b c d : Int32) {S : zS} {n : Nat} (hn : n < 480) (w : jLaw n S) (ha : zn 39 a) (hb : 0 ≤ b.toInt ∧ b.toInt < 4) (hc : 0 ≤ c.toInt ∧ c.toInt < (S 10 4).toInt) : ∃ S', zf L 334 [.inr (.inr 0), .inr (.inr 13), .inl a, .inl b, .inl c, .inl d] S (.inl (some (.inl 1)), S', 0) ∧ jLaw (n + 6) S' := by
  refine zH_f (en_334 _ _ _ _ _ _) ?_
  refine zH_pre (zr_0 i334_0 kc_1 (zr_3_6 i334_1 (zr_1_5 i334_2 (zr_0 i334_3 kc_3 (zr_13_4 i334_4 nz_3 (zt_rfl)))))) ?_
  by_cases h3 : ((zrem d 3) ≤ 0)
  · refine zH_pre (zt_cast (zr_18_5 i334_5 (fun _ => zt_rfl) (fun _ => zt_rfl)) (if_pos h3)) ?_
    exact q334b a b c d none none (n := n + 2) (by omega) (jLaw_u (by omega) w) ha hb hc
  · refine zH_pre (zt_cast (zr_18_5 i334_5 (fun _ => zt_rfl) (fun _ => zt_rfl)) (if_neg h3)) ?_
    refine zH_pre (zr_2_0 i334_6 (zr_1_2 i334_7 (zr_1_3 i334_8 (zr_1_4 i334_9 (zt_rfl))))) ?_
    have hP : jP172 a b c S := ⟨jI_n (by omega) w.1, ha, jdem hc.1 hc.2, by simp only [zk_lt, zk_le, zk_1, jk_0, jk_2, jk_3, jk_4, jk_5, jk_6, jk_7, jk_8, jk_10, jk_11, jk_13, jk_14, jk_15, jk_16, jk_18, jk_20, jk_24, jk_25, jk_36, jk_40, jk_50, jk_64, jk_72, jk_100, jk_120, jk_200, jk_201, jk_216, jk_255, jk_256, jk_257, jk_512, jk_1000, jk_2048, jk_9999, jk_10000, jk_65521, jk_65536, jk_104729, jk_2147483647, jk_m1, jk_m2, jk_m3, jk_m4, jk_m5, jk_m6, jk_m7, jk_m8, jk_m9, jk_m10, jk_m11, jk_m12, jk_m13, jk_m14]; omega⟩
    refine zH_call (zs_21_3 i334_10 na_172 ob_0 rfl) (y172 a b c S hP) ?_
    have f := jv172 (b := b) (by omega) w ha hc
    generalize (B172 a b c S) = S1 at f ⊢
    generalize (A172 a b c S) = r at f ⊢
    obtain ⟨w1, h10, h32, h⟩ := f
    have hc1 : 0 ≤ c.toInt ∧ c.toInt < (S1 10 4).toInt := by rw [h10]; exact hc
    refine zH_pre (zr_3_7 i334_11 (zr_2_0 i334_12 (zr_1_2 i334_13 (zr_1_3 i334_14 (zr_1_4 i334_15 (zt_rfl)))))) ?_
    have hP : jP172 a b c S1 := ⟨jI_n (by omega) w1.1, ha, jdem hc1.1 hc1.2, by simp only [zk_lt, zk_le, zk_1, jk_0, jk_2, jk_3, jk_4, jk_5, jk_6, jk_7, jk_8, jk_10, jk_11, jk_13, jk_14, jk_15, jk_16, jk_18, jk_20, jk_24, jk_25, jk_36, jk_40, jk_50, jk_64, jk_72, jk_100, jk_120, jk_200, jk_201, jk_216, jk_255, jk_256, jk_257, jk_512, jk_1000, jk_2048, jk_9999, jk_10000, jk_65521, jk_65536, jk_104729, jk_2147483647, jk_m1, jk_m2, jk_m3, jk_m4, jk_m5, jk_m6, jk_m7, jk_m8, jk_m9, jk_m10, jk_m11, jk_m12, jk_m13, jk_m14]; omega⟩
    refine zH_call (zs_21_3 i334_16 na_172 ob_0 rfl) (y172 a b c S1 hP) ?_
    have f := jv172 (b := b) (by omega) w1 ha hc1
    generalize (B172 a b c S1) = S2 at f ⊢
    generalize (A172 a b c S1) = r2 at f ⊢
    obtain ⟨w2, i10, i32, k⟩ := f
    have hc2 : 0 ≤ c.toInt ∧ c.toInt < (S2 10 4).toInt := by rw [i10]; exact hc1
    refine zH_pre (zr_3_8 i334_17 (zr_1_7 i334_18 (zr_0 i334_19 kc_m1 (zt_rfl)))) ?_
    by_cases hr : ((-1) ≤ r)
    · refine zH_pre (zt_cast (zr_19_3 i334_20 (fun _ => zt_rfl) (fun _ => zt_rfl)) (if_pos hr)) ?_
      obtain ⟨h1, h2, h4, h5⟩ := h.resolve_left (fun e => by rw [zk_le, jk_m1] at hr; have := e.2; omega)
      refine zH_pre (zr_1_7 i334_28 (zr_0 i334_29 kc_1 (zt_rfl))) ?_
      have hc : ¬ (r < 1) := by rw [zk_lt, zk_1]; omega
      refine zH_pre (zt_cast (zr_19_2 i334_30 (fun _ => zt_rfl) (fun _ => zt_rfl)) (if_neg hc)) ?_
      clear hc
      refine zH_pre (zr_1_7 i334_31 (zr_0 i334_32 kc_8 (zt_rfl))) ?_
      have hc : ¬ (8 < r) := by rw [zk_lt, jk_8]; omega
      refine zH_pre (zt_cast (zr_19_4 i334_33 (fun _ => zt_rfl) (fun _ => zt_rfl)) (if_neg hc)) ?_
      clear hc
      refine zH_pre (zr_1_8 i334_34 (zr_1_7 i334_35 (zt_rfl))) ?_
      by_cases he : (r2 = r)
      · refine zH_pre (zt_cast (zr_19_0 i334_36 (fun _ => zt_rfl) (fun _ => zt_rfl)) (if_pos he)) ?_
        refine zH_pre (zr_0 i334_40 kc_1 (zr_17 i334_41 (zr_3_6 i334_43 (zt_rfl)))) ?_
        exact q334b a b c d _ _ (n := n + 2) (by omega) w2 ha hb hc2
      · refine zH_pre (zt_cast (zr_19_0 i334_36 (fun _ => zt_rfl) (fun _ => zt_rfl)) (if_neg he)) ?_
        have k1 := k.resolve_right (fun e => he (by rw [e.2.2.1, h5, h32, jor_id, h4]; exact F322_S _ _ _))
        refine zH_pre (zr_1_8 i334_37 (zr_0 i334_38 kc_m1 (zt_rfl))) ?_
        have hc : ¬ ((-1) ≤ r2) := by rw [zk_le, jk_m1]; have := k1.2; omega
        refine zH_pre (zt_cast (zr_19_3 i334_39 (fun _ => zt_rfl) (fun _ => zt_rfl)) (if_neg hc)) ?_
        clear hc
        refine zH_pre (zr_0 i334_40 kc_1 (zr_17 i334_41 (zr_3_6 i334_43 (zt_rfl)))) ?_
        exact q334b a b c d _ _ (n := n + 2) (by omega) w2 ha hb hc2
    · refine zH_pre (zt_cast (zr_19_3 i334_20 (fun _ => zt_rfl) (fun _ => zt_rfl)) (if_neg hr)) ?_
      have h1 := h.resolve_right (fun e => hr (by rw [zk_le, jk_m1]; omega))
      refine zH_pre (zr_1_7 i334_21 (zr_0 i334_22 kc_m14 (zt_rfl))) ?_
      have hc : ¬ (r ≤ (-14)) := by rw [zk_le, jk_m14]; have := h1.1; omega
      refine zH_pre (zt_cast (zr_19_5 i334_23 (fun _ => zt_rfl) (fun _ => zt_rfl)) (if_neg hc)) ?_
      clear hc
      refine zH_pre (zr_0 i334_24 kc_1 (zr_17 i334_25 (zr_3_6 i334_43 (zt_rfl)))) ?_
      exact q334b a b c d _ _ (n := n + 2) (by omega) w2 ha hb hc2
