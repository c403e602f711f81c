/-! the law: 25.03.wraps (wip/p57/gen) -/

theorem jv170 {n : Nat} {S : zS} (hn : n < 490) (w : jLaw n S) {a b c : Int32} (d : Int32) (ha : zn 39 a) (hc : zx 216 c) : jI (n + 1) (B170 a b c d S) ∧ jCx [3, 4] (B170 a b c d S) ∧ jE (B170 a b c d S) ∧ B170 a b c d S 13 3 = S 10 0 ∧ B170 a b c d S 1 6 = S 1 6 ∧ B170 a b c d S 0 11 = S 0 11 ∧ ((jRef (A170 a b c d S) ∧ B170 a b c d S 10 0 = S 10 0) ∨ (¬ S 1 6 = 0 ∧ A170 a b c d S = S 10 0 ∧ B170 a b c d S 10 0 = (S 10 0) + 1 ∧ zn 9999 (B170 a b c d S 63 (S 10 0).toNatClampNeg) ∧ B170 a b c d S 64 (S 10 0).toNatClampNeg = S 0 11 ∧ B170 a b c d S 65 (S 10 0).toNatClampNeg = 0)) := by
  obtain ⟨h1, h2⟩ := jq170 (by omega) w.1 (b := b) d ha.1 hc
  have hp := p_B170 a b c d S
  exact ⟨h1, jCx_k rfl hp w.2.1, jE_k rfl rfl hp w.2.2, (hp.2 13 3 rfl rfl).trans (jcx3 w.2.1), hp.2 1 6 rfl rfl, hp.2 0 11 rfl rfl, h2⟩
theorem jv171 {n : Nat} {S : zS} (w : jLaw n S) {a : Int32} (ha : 0 ≤ a.toInt ∧ a.toInt < (S 10 0).toInt) : jLaw n (B171 a S) ∧ B171 a S 13 = S 13 ∧ B171 a S 1 6 = S 1 6 ∧ B171 a S 10 = S 10 ∧ (S 1 6 = 0 → A171 a S = -2) ∧ (¬ S 1 6 = 0 → -7 ≤ (A171 a S).toInt) ∧ (¬ S 1 6 = 0 → ¬ S 65 a.toNatClampNeg = 0 → A171 a S = -7) ∧ (¬ S 1 6 = 0 → S 65 a.toNatClampNeg = 0 → S 64 a.toNatClampNeg = S 0 11 → A171 a S = S 63 a.toNatClampNeg ∧ B171 a S 65 a.toNatClampNeg = 1) := by
  obtain ⟨h1, h2⟩ := jq171 w.1 ha
  have hp := p_B171 a S
  exact ⟨⟨h1, jCx_k rfl hp w.2.1, jE_k rfl rfl hp w.2.2⟩, hp.1 13 rfl, congrFun (hp.1 1 rfl) 6, hp.1 10 rfl, h2⟩
theorem jmem3 {a b : Nat} : ∀ j, zmem [b] j = false → j = a ∨ zmem [b, a] j = false := fun j hj => by
  by_cases h : j = a
  · exact Or.inl h
  · right
    have h1 : Nat.beq a j = false := Bool.eq_false_iff.mpr (fun e => h (Nat.eq_of_beq_eq_true e).symm)
    have h2 : (Nat.beq b j || false) = false := hj
    rw [Bool.or_false] at h2
    show (Nat.beq b j || (Nat.beq a j || false)) = false
    rw [h1, h2]; rfl
theorem jup_id {S : zS} {i : Nat} : z_up S 13 i (S 13 i) = S := by
  funext a
  by_cases h : a = 13
  · subst h; rw [z_up_at]; funext b; rw [upd_r]; split
    · next e => rw [e]
    · rfl
  · exact z_up_ne S 13 i _ a h

set_option maxRecDepth 100000 in
theorem q333 {L : Nat} (a b c : Int32) {S : zS} {n : Nat} (hn : n < 480) (w : jLaw n S) (ha : zn 39 a) (hb : 0 ≤ b.toInt ∧ b.toInt < 4) (hc : zx 216 c) : ∃ S', zf L 333 [.inr (.inr 0), .inr (.inr 13), .inl a, .inl b, .inl c] S (.inl (some (.inl 1)), S', 0) ∧ jLaw (n + 6) S' := by
  refine zH_f (en_333 _ _ _ _ _) ?_
  have hx := zx_iff.mp hc
  refine zH_pre (zr_2_0 i333_0 (zr_1_2 i333_1 (zr_1_3 i333_2 (zr_1_4 i333_3 (zr_0 i333_4 kc_0 (zt_rfl)))))) ?_
  have hP : jP170 a b c 0 S := ⟨jI_n (by omega) w.1, ha, by simp only [zk_lt, zk_le, zk_1, jk_0, jk_2, jk_3, jk_4, jk_5, jk_6, jk_7, jk_8, jk_10, jk_11, jk_13, jk_14, jk_15, jk_16, jk_18, jk_20, jk_24, jk_25, jk_36, jk_40, jk_50, jk_64, jk_72, jk_100, jk_120, jk_200, jk_201, jk_216, jk_255, jk_256, jk_257, jk_512, jk_1000, jk_2048, jk_9999, jk_10000, jk_65521, jk_65536, jk_104729, jk_2147483647, jk_m1, jk_m2, jk_m3, jk_m4, jk_m5, jk_m6, jk_m7, jk_m8, jk_m9, jk_m10, jk_m11, jk_m12, jk_m13, jk_m14]; omega⟩
  refine zH_call (zs_21_4 i333_5 na_170 ob_0 rfl) (y170 a b c 0 S hP) ?_
  have f := jv170 (b := b) (by omega) w 0 ha hc
  generalize (B170 a b c 0 S) = S1 at f ⊢
  generalize (A170 a b c 0 S) = r at f ⊢
  obtain ⟨i1, c1, e1, k3, k6, k11, h⟩ := f
  refine zH_pre (zr_3_5 i333_6 (zr_2_1 i333_7 (zr_0 i333_8 kc_4 (zr_2_0 i333_9 (zt_rfl))))) ?_
  have hP : jP174  S1 := jI_n (by omega) i1
  refine zH_call (zs_21_0 i333_10 na_174 ob_0 rfl) (y174  S1 hP) ?_
  have f := (show (A174 S1) = S1 10 4 from rfl)
  generalize (A174 S1) = cs at f ⊢
  have hcs := f
  refine zH_pre (zr_10 i333_11 ar_13 (zx_9_4) kt_4 (zr_1_5 i333_12 (zt_rfl))) ?_
  have f := (show jI (n + 1) (z_up S1 13 4 cs) ∧ jCx [3] (z_up S1 13 4 cs) ∧ jE (z_up S1 13 4 cs) ∧ (z_up S1 13 4 cs) 13 3 = S 10 0 ∧ (z_up S1 13 4 cs) 1 6 = S 1 6 ∧ (z_up S1 13 4 cs) 10 0 = S1 10 0 ∧ (z_up S1 13 4 cs) 63 = S1 63 ∧ (z_up S1 13 4 cs) 64 = S1 64 ∧ (z_up S1 13 4 cs) 65 = S1 65 ∧ (z_up S1 13 4 cs) 0 11 = S 0 11 from ⟨jI_13 i1 4 _ rfl, jCx_up4 c1 hcs [3] jmem3, jE_13 e1 4 _, (zupf rfl).trans k3, (zupci rfl).trans k6, zupci rfl, zupc rfl, zupc rfl, zupc rfl, (zupci rfl).trans k11⟩)
  generalize (z_up S1 13 4 cs) = S2 at f ⊢
  obtain ⟨i2, c2, e2, m3, m6, m10, m63, m64, m65, m11⟩ := f
  have hW := (rWra_0 (jI_Wra w.1))
  have hw1 := jk_p _ hW (by decide)
  have k8 : S2 13 8 = S 1 6 := (jcxk8 c2).trans m6
  by_cases hr : (0 ≤ r)
  · refine zH_pre (zt_cast (zr_18_3 i333_13 (fun _ => zt_rfl) (fun _ => zt_rfl)) (if_pos hr)) ?_
    obtain ⟨g1, g2, g3, g4, g5, g6⟩ := h.resolve_left (fun e => by rw [zk_le, jk_0] at hr; have := e.1.2; omega)
    have h16 : S 1 6 = 1 := (rSea_0 (jI_Sea w.1)).resolve_left g1
    have hnW := zk_nat hW.1
    refine zH_pre (zr_2_1 i333_41 (zr_0 i333_42 kc_3 (zr_15 i333_43 (zr_8 i333_44 ar_13 (zx_9_3) kt_3 rfl (zr_0 i333_45 kc_1 (zr_13_0 i333_46 (zr_10 i333_47 ar_13 (zx_9_3) kt_3 (zr_2_0 i333_48 (zr_1_5 i333_49 (zt_rfl)))))))))) ?_
    have f := (show jLaw (n + 1) (z_up S2 13 3 ((S2 13 3) + 1)) ∧ (z_up S2 13 3 ((S2 13 3) + 1)) 13 3 = S2 13 3 + 1 ∧ (z_up S2 13 3 ((S2 13 3) + 1)) 1 6 = S 1 6 ∧ (z_up S2 13 3 ((S2 13 3) + 1)) 10 0 = S1 10 0 ∧ (z_up S2 13 3 ((S2 13 3) + 1)) 63 = S1 63 ∧ (z_up S2 13 3 ((S2 13 3) + 1)) 64 = S1 64 ∧ (z_up S2 13 3 ((S2 13 3) + 1)) 65 = S1 65 ∧ (z_up S2 13 3 ((S2 13 3) + 1)) 0 11 = S 0 11 from ⟨⟨jI_13 i2 3 _ rfl, jCx_up3 c2 (by rw [m3, m10, g3]) [] jmem1, jE_13 e2 3 _⟩, zup_s _ _ _ _, (zupci rfl).trans m6, (zupci rfl).trans m10, (zupc rfl).trans m63, (zupc rfl).trans m64, (zupc rfl).trans m65, (zupci rfl).trans m11⟩)
    generalize (z_up S2 13 3 ((S2 13 3) + 1)) = S3 at f ⊢
    obtain ⟨w3, n3, n6, n10, n63, n64, n65, n11⟩ := f
    have hlt : 0 ≤ r.toInt ∧ r.toInt < (S3 10 0).toInt := by rw [g2, n10, g3, hw1]; exact ⟨hW.1, by omega⟩
    have hP : jP171 r S3 := ⟨jI_n (by omega) w3.1, jdem hlt.1 hlt.2⟩
    refine zH_call (zs_21_1 i333_50 na_171 ob_0 rfl) (y171 r S3 hP) ?_
    have f := jv171 w3 hlt
    generalize (B171 r S3) = S4 at f ⊢
    generalize (A171 r S3) = v at f ⊢
    obtain ⟨w4, o13, o6, o10, _, _, _, o4⟩ := f
    obtain ⟨o5, o7⟩ := o4 (by rw [n6]; exact g1) (by rw [n65, g2]; exact g6) (by rw [n64, g2, n11]; exact g5)
    rw [n63, g2] at o5
    refine zH_pre (zr_3_6 i333_51 (zr_1_5 i333_52 (zr_2_1 i333_53 (zr_0 i333_54 kc_3 (zr_8 i333_55 ar_13 (zx_9_3) kt_3 rfl (zr_0 i333_56 kc_1 (zr_13_1 i333_57 (zt_rfl)))))))) ?_
    have hc : (r = ((S4 13 3) - 1)) := by rw [o13, n3, m3, jk_sub1]; exact g2
    refine zH_pre (zt_cast (zr_19_1 i333_58 (fun _ => zt_rfl) (fun _ => zt_rfl)) (if_pos hc)) ?_
    clear hc
    refine zH_pre (zr_1_6 i333_59 (zt_rfl)) ?_
    have hc : ¬ (v < 0) := by rw [o5, zk_lt, jk_0]; have := g4.1; omega
    refine zH_pre (zt_cast (zr_18_2 i333_60 (fun _ => zt_rfl) (fun _ => zt_rfl)) (if_neg hc)) ?_
    clear hc
    refine zH_pre (zr_1_6 i333_61 (zr_0 i333_62 kc_10000 (zt_rfl))) ?_
    have hc : ¬ (10000 ≤ v) := by rw [o5, zk_le, jk_10000]; have := g4.2; omega
    refine zH_pre (zt_cast (zr_19_3 i333_63 (fun _ => zt_rfl) (fun _ => zt_rfl)) (if_neg hc)) ?_
    clear hc
    have hlt4 : 0 ≤ r.toInt ∧ r.toInt < (S4 10 0).toInt := by rw [o10]; exact hlt
    refine zH_pre (zr_2_0 i333_64 (zr_1_5 i333_65 (zt_rfl))) ?_
    have hP : jP171 r S4 := ⟨jI_n (by omega) w4.1, jdem hlt4.1 hlt4.2⟩
    refine zH_call (zs_21_1 i333_66 na_171 ob_0 rfl) (y171 r S4 hP) ?_
    have f := jv171 w4 hlt4
    generalize (B171 r S4) = S5 at f ⊢
    generalize (A171 r S4) = v2 at f ⊢
    obtain ⟨w5, _, _, _, _, _, o8, _⟩ := f
    refine zH_pre (zr_0 i333_67 kc_m7 (zt_rfl)) ?_
    have hc : (v2 = (-7)) := o8 (by rw [o6, n6]; exact g1) (by rw [o7]; decide)
    refine zH_pre (zt_cast (zr_19_1 i333_68 (fun _ => zt_rfl) (fun _ => zt_rfl)) (if_pos hc)) ?_
    clear hc
    refine zH_pre (zr_0 i333_69 kc_1 (zr_17 i333_70 (zt_rfl))) ?_
    exact zH_ret (zr_26 i333_72 zo_1) ⟨rfl, jLaw_u (by omega) w5⟩
  · refine zH_pre (zt_cast (zr_18_3 i333_13 (fun _ => zt_rfl) (fun _ => zt_rfl)) (if_neg hr)) ?_
    obtain ⟨h1, h2⟩ := h.resolve_right (fun e => hr (by rw [e.2.1, zk_le, jk_0]; exact hW.1))
    have w2 : jLaw (n + 1) S2 := ⟨i2, (jCx_up3 (v := S2 13 3) c2 (by rw [m3, m10, h2]) [] jmem1 : jCx [] (z_up S2 13 3 (S2 13 3))) |> (fun e => by rwa [jup_id] at e), e2⟩
    refine zH_pre (zr_1_5 i333_14 (zr_0 i333_15 kc_m1 (zt_rfl))) ?_
    have hc : ¬ ((-1) ≤ r) := by rw [zk_le, jk_m1]; have := h1.2; omega
    refine zH_pre (zt_cast (zr_19_3 i333_16 (fun _ => zt_rfl) (fun _ => zt_rfl)) (if_neg hc)) ?_
    clear hc
    refine zH_pre (zr_1_5 i333_17 (zr_0 i333_18 kc_m14 (zt_rfl))) ?_
    have hc : ¬ (r ≤ (-14)) := by rw [zk_le, jk_m14]; have := h1.1; omega
    refine zH_pre (zt_cast (zr_19_5 i333_19 (fun _ => zt_rfl) (fun _ => zt_rfl)) (if_neg hc)) ?_
    clear hc
    refine zH_pre (zr_2_1 i333_20 (zr_0 i333_21 kc_3 (zr_8 i333_22 ar_13 (zx_9_3) kt_3 rfl (zt_rfl)))) ?_
    by_cases c3 : ((S2 13 3) = 0)
    · refine zH_pre (zt_cast (zr_18_0 i333_23 (fun _ => zt_rfl) (fun _ => zt_rfl)) (if_pos c3)) ?_
      refine zH_pre (zr_0 i333_37 kc_1 (zr_17 i333_38 (zt_rfl))) ?_
      exact zH_ret (zr_26 i333_40 zo_1) ⟨rfl, jLaw_u (by omega) w2⟩
    · refine zH_pre (zt_cast (zr_18_0 i333_23 (fun _ => zt_rfl) (fun _ => zt_rfl)) (if_neg c3)) ?_
      refine zH_pre (zr_2_1 i333_24 (zr_0 i333_25 kc_8 (zr_8 i333_26 ar_13 (zx_9_8) kt_8 rfl (zt_rfl)))) ?_
      by_cases c8 : ((S2 13 8) = 0)
      · refine zH_pre (zt_cast (zr_18_0 i333_27 (fun _ => zt_rfl) (fun _ => zt_rfl)) (if_pos c8)) ?_
        refine zH_pre (zr_0 i333_37 kc_1 (zr_17 i333_38 (zt_rfl))) ?_
        exact zH_ret (zr_26 i333_40 zo_1) ⟨rfl, jLaw_u (by omega) w2⟩
      · refine zH_pre (zt_cast (zr_18_0 i333_27 (fun _ => zt_rfl) (fun _ => zt_rfl)) (if_neg c8)) ?_
        have e3 : ((S2 13 3) - 1).toInt = (S 10 0).toInt - 1 := by unfold zn at hW; rw [m3, zk_tsub (by rw [zk_1]; omega) (by rw [zk_1]; omega), zk_1]
        have hlt : 0 ≤ ((S2 13 3) - 1).toInt ∧ ((S2 13 3) - 1).toInt < (S2 10 0).toInt := by
          rw [e3, m10, h2]
          refine ⟨?_, by omega⟩
          have := hW.1
          have h9 : ¬ (S 10 0).toInt = 0 := fun e => c3 (by rw [m3]; exact zk_eq.mpr e)
          omega
        refine zH_pre (zr_2_0 i333_28 (zr_2_1 i333_29 (zr_0 i333_30 kc_3 (zr_8 i333_31 ar_13 (zx_9_3) kt_3 rfl (zr_0 i333_32 kc_1 (zr_13_1 i333_33 (zt_rfl))))))) ?_
        have hP : jP171 ((S2 13 3) - 1) S2 := ⟨jI_n (by omega) w2.1, jdem hlt.1 hlt.2⟩
        refine zH_call (zs_21_1 i333_34 na_171 ob_0 rfl) (y171 ((S2 13 3) - 1) S2 hP) ?_
        have f := jv171 w2 hlt
        generalize (B171 ((S2 13 3) - 1) S2) = S4 at f ⊢
        generalize (A171 ((S2 13 3) - 1) S2) = v at f ⊢
        obtain ⟨w4, _, _, _, _, o5, _, _⟩ := f
        refine zH_pre (zr_0 i333_35 kc_m7 (zt_rfl)) ?_
        have hc : ¬ (v < (-7)) := by rw [zk_lt, jk_m7]; have := o5 (fun e => c8 (by rw [k8, ← m6]; exact e)); omega
        refine zH_pre (zt_cast (zr_19_2 i333_36 (fun _ => zt_rfl) (fun _ => zt_rfl)) (if_neg hc)) ?_
        clear hc
        refine zH_pre (zr_0 i333_37 kc_1 (zr_17 i333_38 (zt_rfl))) ?_
        exact zH_ret (zr_26 i333_40 zo_1) ⟨rfl, jLaw_u (by omega) w4⟩
