/-! the law: 25.05.certificates (wip/p57/gen) -/

theorem jv175 {n : Nat} {S : zS} (hn : n < 490) (w : jLaw n S) {a b c d : Int32} (ha : zn 39 a) (hc : zx 216 c) (hd : 1 ≤ d.toInt ∧ d.toInt ≤ 200) : jI (n + 1) (B175 a b c d S) ∧ jCx [5] (B175 a b c d S) ∧ jE (B175 a b c d S) ∧ B175 a b c d S 13 5 = S 11 0 ∧ B175 a b c d S 1 6 = S 1 6 ∧ ((jRef (A175 a b c d S) ∧ B175 a b c d S 11 0 = S 11 0) ∨ (¬ S 1 6 = 0 ∧ A175 a b c d S = S 11 0 ∧ B175 a b c d S 11 0 = (S 11 0) + 1 ∧ A178 (S 11 0) (B175 a b c d S) = 1 ∧ B175 a b c d S 75 = S 75 ∧ B175 a b c d S 72 (S 11 0).toNatClampNeg = c)) := by
  obtain ⟨h1, h2⟩ := jq175 (by omega) w.1 (b := b) ha.1 hc hd
  have hp := p_B175 a b c d S
  exact ⟨h1, jCx_k rfl hp w.2.1, jE_k rfl rfl hp w.2.2, (hp.2 13 5 rfl rfl).trans (jcx5 w.2.1), hp.2 1 6 rfl rfl, h2⟩
theorem A178_cg {a : Int32} {S S' : zS} (h0 : S' 0 11 = S 0 11) (h73 : S' 73 = S 73) (h74 : S' 74 = S 74) (h76 : S' 76 = S 76) : A178 a S' = A178 a S := by
  unfold A178 F7
  rw [h0, h73, h74, h76]
theorem jv176 {n : Nat} {S : zS} (w : jLaw n S) {a : Int32} (ha : 0 ≤ a.toInt ∧ a.toInt < (S 11 0).toInt) : jLaw n (B176 a S) ∧ A176 a S = zb (S 75 a.toNatClampNeg = 0) ∧ B176 a S 75 a.toNatClampNeg = 1 ∧ B176 a S 11 = S 11 ∧ B176 a S 0 = S 0 ∧ B176 a S 73 = S 73 ∧ B176 a S 74 = S 74 ∧ B176 a S 76 = S 76 := by
  obtain ⟨h1, h2⟩ := jq176 w.1 ha
  have hp := p_B176 a S
  exact ⟨⟨h1, jCx_k rfl hp w.2.1, jE_k rfl rfl hp w.2.2⟩, h2⟩
theorem jv177 {n : Nat} {S : zS} (w : jLaw n S) : jLaw n (B177 S) ∧ B177 S 11 = S 11 ∧ B177 S 0 = S 0 ∧ B177 S 73 = S 73 ∧ B177 S 74 = S 74 ∧ 0 ≤ (A177 S).toInt ∧ (∀ i, i < (S 11 0).toNatClampNeg → ¬ S 75 i = 0 → ¬ S 73 i ≤ S 0 11 → 1 ≤ (A177 S).toInt ∧ B177 S 76 i = 1) := by
  obtain ⟨h1, h2⟩ := jq177 w.1
  have hp := p_B177 S
  exact ⟨⟨h1, jCx_k rfl hp w.2.1, jE_k rfl rfl hp w.2.2⟩, hp.1 11 rfl, hp.1 0 rfl, hp.1 73 rfl, hp.1 74 rfl, h2⟩
theorem jbad {a : Int32} {S : zS} (h : S 76 a.toNatClampNeg = 1) : A178 a S = 0 := by
  unfold A178 F7
  by_cases c : S 73 a.toNatClampNeg ≤ S 0 11
  · rw [if_pos c]
  · rw [if_neg c, if_neg (by rw [h]; decide)]
theorem jgood {a : Int32} {S : zS} (h : A178 a S = 1) : ¬ S 73 a.toNatClampNeg ≤ S 0 11 := fun e => by
  unfold A178 F7 at h
  rw [if_pos e] at h; exact absurd h (by decide)

set_option maxRecDepth 100000 in
theorem q335 {L : Nat} (a b c d : Int32) {S : zS} {n : Nat} (hn : n < 480) (w : jLaw n S) (ha : zn 39 a) (hb : 0 ≤ b.toInt ∧ b.toInt < 4) (hc : zx 216 c) (hd : 1 ≤ d.toInt ∧ d.toInt ≤ 200) : ∃ S', zf L 335 [.inr (.inr 0), .inr (.inr 13), .inl a, .inl b, .inl c, .inl d] S (.inl (some (.inl 1)), S', 0) ∧ jLaw (n + 6) S' := by
  refine zH_f (en_335 _ _ _ _ _ _) ?_
  have hx := zx_iff.mp hc
  have hC := rCer_0 (jI_Cer w.1)
  have hC1 := jk_p _ hC (by decide)
  have hnC := zk_nat hC.1
  refine zH_pre (zr_2_0 i335_0 (zr_1_2 i335_1 (zr_1_3 i335_2 (zr_1_4 i335_3 (zr_1_5 i335_4 (zt_rfl)))))) ?_
  have hP : jP175 a b c d S := ⟨jI_n (by omega) w.1, ha, by simp only [zk_lt, zk_le, zk_1, jk_0, jk_2, jk_3, jk_4, jk_5, jk_6, jk_7, jk_8, jk_10, jk_11, jk_13, jk_14, jk_15, jk_16, jk_18, jk_20, jk_24, jk_25, jk_36, jk_40, jk_50, jk_64, jk_72, jk_100, jk_120, jk_200, jk_201, jk_216, jk_255, jk_256, jk_257, jk_512, jk_1000, jk_2048, jk_9999, jk_10000, jk_65521, jk_65536, jk_104729, jk_2147483647, jk_m1, jk_m2, jk_m3, jk_m4, jk_m5, jk_m6, jk_m7, jk_m8, jk_m9, jk_m10, jk_m11, jk_m12, jk_m13, jk_m14]; omega⟩
  refine zH_call (zs_21_4 i335_5 na_175 ob_0 rfl) (y175 a b c d S hP) ?_
  have f := jv175 (b := b) (by omega) w ha hc hd
  generalize (B175 a b c d S) = S1 at f ⊢
  generalize (A175 a b c d S) = r at f ⊢
  obtain ⟨i1, c1, e1, k5, k6, h⟩ := f
  refine zH_pre (zr_3_6 i335_6 (zr_1_6 i335_7 (zt_rfl))) ?_
  by_cases hr : (0 ≤ r)
  · refine zH_pre (zt_cast (zr_18_3 i335_8 (fun _ => zt_rfl) (fun _ => zt_rfl)) (if_pos hr)) ?_
    obtain ⟨g1, g2, g3, g4, g5, g6⟩ := h.resolve_left (fun e => by rw [zk_le, jk_0] at hr; have := e.1.2; omega)
    have hg : A178 r S1 = 1 := by rw [g2]; exact g4
    have hz := ((rCer_5 (jI_Cer w.1)) (S 11 0).toNatClampNeg (Nat.le_refl _)).1
    refine zH_pre (zr_2_1 i335_22 (zr_0 i335_23 kc_5 (zr_15 i335_24 (zr_8 i335_25 ar_13 (zx_9_5) kt_5 rfl (zr_0 i335_26 kc_1 (zr_13_0 i335_27 (zr_10 i335_28 ar_13 (zx_9_5) kt_5 (zr_1_6 i335_29 (zr_2_1 i335_30 (zr_0 i335_31 kc_5 (zr_8 i335_32 ar_13 (zx_9_5) kt_5 (zup_s _ _ _ _) (zr_0 i335_33 kc_1 (zr_13_1 i335_34 (zt_rfl)))))))))))))) ?_
    have f := (show jLaw (n + 1) (z_up S1 13 5 ((S1 13 5) + 1)) ∧ (z_up S1 13 5 ((S1 13 5) + 1)) 13 5 = S1 13 5 + 1 ∧ (z_up S1 13 5 ((S1 13 5) + 1)) 11 0 = S1 11 0 ∧ (z_up S1 13 5 ((S1 13 5) + 1)) 0 = S1 0 ∧ (z_up S1 13 5 ((S1 13 5) + 1)) 72 = S1 72 ∧ (z_up S1 13 5 ((S1 13 5) + 1)) 73 = S1 73 ∧ (z_up S1 13 5 ((S1 13 5) + 1)) 74 = S1 74 ∧ (z_up S1 13 5 ((S1 13 5) + 1)) 75 = S1 75 ∧ (z_up S1 13 5 ((S1 13 5) + 1)) 76 = S1 76 from ⟨⟨jI_13 i1 5 _ rfl, jCx_up5 c1 (by rw [k5, g3]) [] jmem1, jE_13 e1 5 _⟩, zup_s _ _ _ _, zupci rfl, zupc rfl, zupc rfl, zupc rfl, zupc rfl, zupc rfl, zupc rfl⟩)
    generalize (z_up S1 13 5 ((S1 13 5) + 1)) = S2 at f ⊢
    obtain ⟨w2, m5, m11, m0, m72, m73, m74, m75, m76⟩ := f
    have hlt : 0 ≤ r.toInt ∧ r.toInt < (S2 11 0).toInt := by rw [g2, m11, g3, hC1]; exact ⟨hC.1, by omega⟩
    have hd2 := jdem hlt.1 hlt.2
    have hnr := zk_nat hlt.1
    have hn2 := zk_nat (rCer_0 (jI_Cer w2.1)).1
    have hg2 : A178 r S2 = 1 := (A178_cg (congrFun m0 11) m73 m74 m76).trans hg
    obtain ⟨q1, q2, q3⟩ := (rCer_1 (jI_Cer w2.1)) r.toNatClampNeg (by omega)
    obtain ⟨q4, q5⟩ := (rCer_2 (jI_Cer w2.1)) r.toNatClampNeg (by omega)
    have q6 : S2 72 r.toNatClampNeg = c := by rw [m72, g2]; exact g6
    rw [q6] at q5
    have hc : (r = (((S1 13 5) + 1) - 1)) := by rw [k5, jk_sub1]; exact g2
    refine zH_pre (zt_cast (zr_19_1 i335_35 (fun _ => zt_rfl) (fun _ => zt_rfl)) (if_pos hc)) ?_
    clear hc
    refine zH_pre (zr_2_0 i335_36 (zr_1_6 i335_37 (zt_rfl))) ?_
    have hP : jP178 r S2 := ⟨jI_n (by omega) w2.1, hd2⟩
    refine zH_call (zs_21_1 i335_38 na_178 ob_0 rfl) (y178 r S2 hP) ?_
    have f := (show (A178 r S2) = 1 from hg2)
    generalize (A178 r S2) = r2 at f ⊢
    have hc : ¬ (r2 = 0) := by rw [f]; decide
    refine zH_pre (zt_cast (zr_18_0 i335_39 (fun _ => zt_rfl) (fun _ => zt_rfl)) (if_neg hc)) ?_
    clear hc
    refine zH_pre (zr_2_0 i335_40 (zr_1_6 i335_41 (zt_rfl))) ?_
    have hP : jP179 r S2 := ⟨jI_n (by omega) w2.1, hd2⟩
    refine zH_call (zs_21_1 i335_42 na_179 ob_0 rfl) (y179 r S2 hP) ?_
    have f := (show (A179 r S2) = S2 74 r.toNatClampNeg from rfl)
    generalize (A179 r S2) = r3 at f ⊢
    refine zH_pre (zr_1_6 i335_43 (zt_rfl)) ?_
    have hc : ¬ (r < r3) := by rw [f, zk_lt]; omega
    refine zH_pre (zt_cast (zr_19_4 i335_44 (fun _ => zt_rfl) (fun _ => zt_rfl)) (if_neg hc)) ?_
    clear hc
    refine zH_pre (zr_1_4 i335_45 (zr_0 i335_46 kc_6 (zr_13_4 i335_47 nz_6 (zt_rfl)))) ?_
    by_cases h6 : ((zrem c 6) = 0)
    · refine zH_pre (zt_cast (zr_18_1 i335_48 (fun _ => zt_rfl) (fun _ => zt_rfl)) (if_pos h6)) ?_
      refine zH_pre (zr_2_0 i335_49 (zr_1_6 i335_50 (zt_rfl))) ?_
      have hP : jP179 r S2 := ⟨jI_n (by omega) w2.1, hd2⟩
      refine zH_call (zs_21_1 i335_51 na_179 ob_0 rfl) (y179 r S2 hP) ?_
      have f := (show (A179 r S2) = S2 74 r.toNatClampNeg from rfl)
      generalize (A179 r S2) = r4 at f ⊢
      refine zH_pre (zr_1_6 i335_52 (zt_rfl)) ?_
      have hc : (r4 = r) := by rw [f, q5 h6]; exact zk_of hlt.1
      refine zH_pre (zt_cast (zr_19_1 i335_53 (fun _ => zt_rfl) (fun _ => zt_rfl)) (if_pos hc)) ?_
      clear hc
      refine zH_pre (zr_0 i335_54 kc_1 (zr_17 i335_55 (zr_3_7 i335_57 (zr_1_5 i335_58 (zr_0 i335_59 kc_3 (zr_13_4 i335_60 nz_3 (zt_rfl))))))) ?_
      by_cases h3 : ((zrem d 3) ≤ 0)
      · refine zH_pre (zt_cast (zr_18_5 i335_61 (fun _ => zt_rfl) (fun _ => zt_rfl)) (if_pos h3)) ?_
        refine zH_pre (zr_1_7 i335_64 (zt_rfl)) ?_
        refine zH_pre (zr_18f_0 i335_65 (by decide) zt_rfl) ?_
        refine zH_pre (zr_2_0 i335_66 (zr_1_6 i335_67 (zt_rfl))) ?_
        have hP : jP176 r S2 := ⟨jI_n (by omega) w2.1, hd2⟩
        refine zH_call (zs_21_1 i335_68 na_176 ob_0 rfl) (y176 r S2 hP) ?_
        have f := jv176 w2 hlt
        generalize (B176 r S2) = S3 at f ⊢
        generalize (A176 r S2) = t at f ⊢
        obtain ⟨w3, a1, a2, a11, a0, a73, a74, a76⟩ := f
        have hc : ¬ (t = 0) := by rw [a1, m75, g5, g2, hz]; decide
        refine zH_pre (zt_cast (zr_18_0 i335_69 (fun _ => zt_rfl) (fun _ => zt_rfl)) (if_neg hc)) ?_
        clear hc
        have hlt3 : 0 ≤ r.toInt ∧ r.toInt < (S3 11 0).toInt := by rw [a11]; exact hlt
        have hg3 : A178 r S3 = 1 := (A178_cg (congrFun a0 11) a73 a74 a76).trans hg2
        refine zH_pre (zr_2_0 i335_70 (zr_1_6 i335_71 (zt_rfl))) ?_
        have hP : jP176 r S3 := ⟨jI_n (by omega) w3.1, jdem hlt3.1 hlt3.2⟩
        refine zH_call (zs_21_1 i335_72 na_176 ob_0 rfl) (y176 r S3 hP) ?_
        have f := jv176 w3 hlt3
        generalize (B176 r S3) = S4 at f ⊢
        generalize (A176 r S3) = t2 at f ⊢
        obtain ⟨w4, b1, b2, b11, b0, b73, b74, b76⟩ := f
        have hc : (t2 = 0) := by rw [b1, a2]; decide
        refine zH_pre (zt_cast (zr_18_1 i335_73 (fun _ => zt_rfl) (fun _ => zt_rfl)) (if_pos hc)) ?_
        clear hc
        have hlt4 : 0 ≤ r.toInt ∧ r.toInt < (S4 11 0).toInt := by rw [b11]; exact hlt3
        have hg4 : A178 r S4 = 1 := (A178_cg (congrFun b0 11) b73 b74 b76).trans hg3
        refine zH_pre (zr_2_0 i335_74 (zr_1_6 i335_75 (zt_rfl))) ?_
        have hP : jP178 r S4 := ⟨jI_n (by omega) w4.1, jdem hlt4.1 hlt4.2⟩
        refine zH_call (zs_21_1 i335_76 na_178 ob_0 rfl) (y178 r S4 hP) ?_
        have f := (show (A178 r S4) = 1 from hg4)
        generalize (A178 r S4) = t3 at f ⊢
        have hc : ¬ (t3 = 0) := by rw [f]; decide
        refine zH_pre (zt_cast (zr_18_0 i335_77 (fun _ => zt_rfl) (fun _ => zt_rfl)) (if_neg hc)) ?_
        clear hc
        refine zH_pre (zr_2_0 i335_78 (zt_rfl)) ?_
        have hP : jP177  S4 := jI_n (by omega) w4.1
        refine zH_call (zs_21_0 i335_79 na_177 ob_0 rfl) (y177  S4 hP) ?_
        have f := jv177 w4
        generalize (B177 S4) = S5 at f ⊢
        generalize (A177 S4) = t4 at f ⊢
        obtain ⟨w5, d11, d0, d73, d74, _, d7⟩ := f
        have hn4 := zk_nat (rCer_0 (jI_Cer w4.1)).1
        obtain ⟨d8, d9⟩ := d7 r.toNatClampNeg (by omega) (by rw [b2]; decide) (jgood hg4)
        refine zH_pre (zr_0 i335_80 kc_1 (zt_rfl)) ?_
        have hc : ¬ (t4 < 1) := by rw [zk_lt, zk_1]; omega
        refine zH_pre (zt_cast (zr_19_2 i335_81 (fun _ => zt_rfl) (fun _ => zt_rfl)) (if_neg hc)) ?_
        clear hc
        have hlt5 : 0 ≤ r.toInt ∧ r.toInt < (S5 11 0).toInt := by rw [d11]; exact hlt4
        refine zH_pre (zr_2_0 i335_82 (zr_1_6 i335_83 (zt_rfl))) ?_
        have hP : jP178 r S5 := ⟨jI_n (by omega) w5.1, jdem hlt5.1 hlt5.2⟩
        refine zH_call (zs_21_1 i335_84 na_178 ob_0 rfl) (y178 r S5 hP) ?_
        have f := (show (A178 r S5) = 0 from jbad d9)
        generalize (A178 r S5) = t5 at f ⊢
        have hc : (t5 = 0) := f
        refine zH_pre (zt_cast (zr_18_1 i335_85 (fun _ => zt_rfl) (fun _ => zt_rfl)) (if_pos hc)) ?_
        clear hc
        refine zH_pre (zr_0 i335_86 kc_1 (zr_17 i335_87 (zt_rfl))) ?_
        exact zH_ret (zr_26 i335_89 zo_1) ⟨rfl, jLaw_u (by omega) w5⟩
      · refine zH_pre (zt_cast (zr_18_5 i335_61 (fun _ => zt_rfl) (fun _ => zt_rfl)) (if_neg h3)) ?_
        refine zH_pre (zr_1_7 i335_62 (zt_rfl)) ?_
        exact zH_ret (zr_26 i335_63 zo_1) ⟨rfl, jLaw_u (by omega) w2⟩
    · refine zH_pre (zt_cast (zr_18_1 i335_48 (fun _ => zt_rfl) (fun _ => zt_rfl)) (if_neg h6)) ?_
      refine zH_pre (zr_0 i335_54 kc_1 (zr_17 i335_55 (zr_3_7 i335_57 (zr_1_5 i335_58 (zr_0 i335_59 kc_3 (zr_13_4 i335_60 nz_3 (zt_rfl))))))) ?_
      by_cases h3 : ((zrem d 3) ≤ 0)
      · refine zH_pre (zt_cast (zr_18_5 i335_61 (fun _ => zt_rfl) (fun _ => zt_rfl)) (if_pos h3)) ?_
        refine zH_pre (zr_1_7 i335_64 (zt_rfl)) ?_
        refine zH_pre (zr_18f_0 i335_65 (by decide) zt_rfl) ?_
        refine zH_pre (zr_2_0 i335_66 (zr_1_6 i335_67 (zt_rfl))) ?_
        have hP : jP176 r S2 := ⟨jI_n (by omega) w2.1, hd2⟩
        refine zH_call (zs_21_1 i335_68 na_176 ob_0 rfl) (y176 r S2 hP) ?_
        have f := jv176 w2 hlt
        generalize (B176 r S2) = S3 at f ⊢
        generalize (A176 r S2) = t at f ⊢
        obtain ⟨w3, a1, a2, a11, a0, a73, a74, a76⟩ := f
        have hc : ¬ (t = 0) := by rw [a1, m75, g5, g2, hz]; decide
        refine zH_pre (zt_cast (zr_18_0 i335_69 (fun _ => zt_rfl) (fun _ => zt_rfl)) (if_neg hc)) ?_
        clear hc
        have hlt3 : 0 ≤ r.toInt ∧ r.toInt < (S3 11 0).toInt := by rw [a11]; exact hlt
        have hg3 : A178 r S3 = 1 := (A178_cg (congrFun a0 11) a73 a74 a76).trans hg2
        refine zH_pre (zr_2_0 i335_70 (zr_1_6 i335_71 (zt_rfl))) ?_
        have hP : jP176 r S3 := ⟨jI_n (by omega) w3.1, jdem hlt3.1 hlt3.2⟩
        refine zH_call (zs_21_1 i335_72 na_176 ob_0 rfl) (y176 r S3 hP) ?_
        have f := jv176 w3 hlt3
        generalize (B176 r S3) = S4 at f ⊢
        generalize (A176 r S3) = t2 at f ⊢
        obtain ⟨w4, b1, b2, b11, b0, b73, b74, b76⟩ := f
        have hc : (t2 = 0) := by rw [b1, a2]; decide
        refine zH_pre (zt_cast (zr_18_1 i335_73 (fun _ => zt_rfl) (fun _ => zt_rfl)) (if_pos hc)) ?_
        clear hc
        have hlt4 : 0 ≤ r.toInt ∧ r.toInt < (S4 11 0).toInt := by rw [b11]; exact hlt3
        have hg4 : A178 r S4 = 1 := (A178_cg (congrFun b0 11) b73 b74 b76).trans hg3
        refine zH_pre (zr_2_0 i335_74 (zr_1_6 i335_75 (zt_rfl))) ?_
        have hP : jP178 r S4 := ⟨jI_n (by omega) w4.1, jdem hlt4.1 hlt4.2⟩
        refine zH_call (zs_21_1 i335_76 na_178 ob_0 rfl) (y178 r S4 hP) ?_
        have f := (show (A178 r S4) = 1 from hg4)
        generalize (A178 r S4) = t3 at f ⊢
        have hc : ¬ (t3 = 0) := by rw [f]; decide
        refine zH_pre (zt_cast (zr_18_0 i335_77 (fun _ => zt_rfl) (fun _ => zt_rfl)) (if_neg hc)) ?_
        clear hc
        refine zH_pre (zr_2_0 i335_78 (zt_rfl)) ?_
        have hP : jP177  S4 := jI_n (by omega) w4.1
        refine zH_call (zs_21_0 i335_79 na_177 ob_0 rfl) (y177  S4 hP) ?_
        have f := jv177 w4
        generalize (B177 S4) = S5 at f ⊢
        generalize (A177 S4) = t4 at f ⊢
        obtain ⟨w5, d11, d0, d73, d74, _, d7⟩ := f
        have hn4 := zk_nat (rCer_0 (jI_Cer w4.1)).1
        obtain ⟨d8, d9⟩ := d7 r.toNatClampNeg (by omega) (by rw [b2]; decide) (jgood hg4)
        refine zH_pre (zr_0 i335_80 kc_1 (zt_rfl)) ?_
        have hc : ¬ (t4 < 1) := by rw [zk_lt, zk_1]; omega
        refine zH_pre (zt_cast (zr_19_2 i335_81 (fun _ => zt_rfl) (fun _ => zt_rfl)) (if_neg hc)) ?_
        clear hc
        have hlt5 : 0 ≤ r.toInt ∧ r.toInt < (S5 11 0).toInt := by rw [d11]; exact hlt4
        refine zH_pre (zr_2_0 i335_82 (zr_1_6 i335_83 (zt_rfl))) ?_
        have hP : jP178 r S5 := ⟨jI_n (by omega) w5.1, jdem hlt5.1 hlt5.2⟩
        refine zH_call (zs_21_1 i335_84 na_178 ob_0 rfl) (y178 r S5 hP) ?_
        have f := (show (A178 r S5) = 0 from jbad d9)
        generalize (A178 r S5) = t5 at f ⊢
        have hc : (t5 = 0) := f
        refine zH_pre (zt_cast (zr_18_1 i335_85 (fun _ => zt_rfl) (fun _ => zt_rfl)) (if_pos hc)) ?_
        clear hc
        refine zH_pre (zr_0 i335_86 kc_1 (zr_17 i335_87 (zt_rfl))) ?_
        exact zH_ret (zr_26 i335_89 zo_1) ⟨rfl, jLaw_u (by omega) w5⟩
      · refine zH_pre (zt_cast (zr_18_5 i335_61 (fun _ => zt_rfl) (fun _ => zt_rfl)) (if_neg h3)) ?_
        refine zH_pre (zr_1_7 i335_62 (zt_rfl)) ?_
        exact zH_ret (zr_26 i335_63 zo_1) ⟨rfl, jLaw_u (by omega) w2⟩
  · refine zH_pre (zt_cast (zr_18_3 i335_8 (fun _ => zt_rfl) (fun _ => zt_rfl)) (if_neg hr)) ?_
    have h1 := h.resolve_right (fun e => hr (by rw [e.2.1, zk_le, jk_0]; exact hC.1))
    have w1 : jLaw (n + 1) S1 := ⟨i1, (by have e := jCx_up5 (v := S1 13 5) c1 (by rw [k5, h1.2]) [] jmem1; rwa [jup_id] at e), e1⟩
    refine zH_pre (zr_1_6 i335_9 (zr_0 i335_10 kc_m1 (zt_rfl))) ?_
    have hc : ¬ ((-1) ≤ r) := by rw [zk_le, jk_m1]; have := h1.1.2; omega
    refine zH_pre (zt_cast (zr_19_3 i335_11 (fun _ => zt_rfl) (fun _ => zt_rfl)) (if_neg hc)) ?_
    clear hc
    refine zH_pre (zr_1_6 i335_12 (zr_0 i335_13 kc_m14 (zt_rfl))) ?_
    have hc : ¬ (r ≤ (-14)) := by rw [zk_le, jk_m14]; have := h1.1.1; omega
    refine zH_pre (zt_cast (zr_19_5 i335_14 (fun _ => zt_rfl) (fun _ => zt_rfl)) (if_neg hc)) ?_
    clear hc
    refine zH_pre (zr_2_0 i335_15 (zt_rfl)) ?_
    have hP : jP177  S1 := jI_n (by omega) w1.1
    refine zH_call (zs_21_0 i335_16 na_177 ob_0 rfl) (y177  S1 hP) ?_
    have f := jv177 w1
    generalize (B177 S1) = S5 at f ⊢
    generalize (A177 S1) = t4 at f ⊢
    obtain ⟨w5, _, _, _, _, d6, _⟩ := f
    have hc : ¬ (t4 < 0) := by rw [zk_lt, jk_0]; omega
    refine zH_pre (zt_cast (zr_18_2 i335_17 (fun _ => zt_rfl) (fun _ => zt_rfl)) (if_neg hc)) ?_
    clear hc
    refine zH_pre (zr_0 i335_18 kc_1 (zr_17 i335_19 (zt_rfl))) ?_
    exact zH_ret (zr_26 i335_21 zo_1) ⟨rfl, jLaw_u (by omega) w5⟩
