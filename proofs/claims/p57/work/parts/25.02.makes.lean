/-! the law: 25.02.makes (wip/p57/gen) -/

theorem jrem {x y : Int32} (hx : 0 ≤ x.toInt) (hy : 0 < y.toInt) : 0 ≤ (zrem x y).toInt ∧ (zrem x y).toInt < y.toInt := by
  rw [zrem_nn hy hx]
  exact ⟨Int.emod_nonneg _ (by omega), Int.emod_lt_of_pos _ hy⟩
theorem jdv {x y : Int32} (hx : 0 ≤ x.toInt) (hy : 0 < y.toInt) : 0 ≤ (x / y).toInt ∧ (x / y).toInt ≤ x.toInt := by
  rw [zdiv_ti hy hx]
  exact ⟨Int.ediv_nonneg hx (by omega), Int.ediv_le_self _ hx⟩
theorem jp1 {x : Int32} {m : Int} (h : 0 ≤ x.toInt ∧ x.toInt < m) (hm : m ≤ 100000) : (1 + x).toInt = 1 + x.toInt := by rw [zk_tadd (by rw [zk_1]; omega) (by rw [zk_1]; omega), zk_1]
theorem jv152 {n : Nat} {S : zS} (hn : n < 490) (w : jLaw n S) {a b c d e f g o : Int32} (hb : zn 2 b) (hd : 1 ≤ d.toInt ∧ d.toInt ≤ 100) (he : d.toInt ≤ e.toInt ∧ e.toInt ≤ 200) (hf : f = -1 ∨ (1 ≤ f.toInt ∧ f.toInt ≤ 20)) (ho : zo o) : jI n (B152 a b c d e f g o S) ∧ jCx [1] (B152 a b c d e f g o S) ∧ jE (B152 a b c d e f g o S) ∧ B152 a b c d e f g o S 13 1 = S 5 0 ∧ B152 a b c d e f g o S 1 6 = S 1 6 ∧ ((A152 a b c d e f g o S = -2 ∧ S 1 6 = 0 ∧ B152 a b c d e f g o S = S) ∨ (A152 a b c d e f g o S = -4 ∧ ¬ S 1 6 = 0 ∧ ¬ a = -1 ∧ B152 a b c d e f g o S = S) ∨ (A152 a b c d e f g o S = -6 ∧ ¬ S 1 6 = 0 ∧ ¬ a = -1 ∧ B152 a b c d e f g o S = S) ∨ (A152 a b c d e f g o S = -11 ∧ ¬ S 1 6 = 0 ∧ S 5 0 = 40 ∧ B152 a b c d e f g o S = S) ∨ (¬ S 1 6 = 0 ∧ A152 a b c d e f g o S = S 5 0 ∧ B152 a b c d e f g o S 5 0 = (S 5 0) + 1 ∧ B152 a b c d e f g o S 40 (S 5 0).toNatClampNeg = 0 ∧ B152 a b c d e f g o S 37 (S 5 0).toNatClampNeg = f ∧ (a = -1 ∨ (0 ≤ a.toInt ∧ a.toInt < (S 5 0).toInt ∧ B152 a b c d e f g o S 40 a.toNatClampNeg = 0)))) := by
  obtain ⟨h1, h2⟩ := jq152 (by omega) w.1 (a := a) (c := c) (g := g) hb hd he hf ho
  have hp := p_B152 a b c d e f g o S
  exact ⟨h1, jCx_k rfl hp w.2.1, jE_k rfl rfl hp w.2.2, (hp.2 13 1 rfl rfl).trans (jcx1 w.2.1), hp.2 1 6 rfl rfl, h2⟩

set_option maxRecDepth 100000 in
theorem q329c {L : Nat} (a b c p h q u : Int32) {S : zS} {n : Nat} (hn : n < 480) (w : jLaw n S) (hb : 0 ≤ b.toInt) (hc : 0 ≤ c.toInt) (hp : p = -1 ∨ zn 39 p) (hh : 1 ≤ h.toInt ∧ h.toInt ≤ 100) (hq : h.toInt ≤ q.toInt ∧ q.toInt ≤ 200) (hu : u = -1 ∨ (1 ≤ u.toInt ∧ u.toInt ≤ 20)) : zH L 329 (46, [some (.inr (.inr 0)), some (.inr (.inr 13)), some (.inl a), some (.inl b), some (.inl c), some (.inl p), some (.inl h), some (.inl q), some (.inl u), none], [], S) (jQ (fun S' => jLaw (n + 6) S')) := by
  refine zH_pre (zr_2_0 i329_46 (zr_1_5 i329_47 (zr_1_3 i329_48 (zr_0 i329_49 kc_64 (zr_13_3 i329_50 nz_64 (zr_0 i329_51 kc_3 (zr_13_4 i329_52 nz_3 (zr_1_4 i329_53 (zr_0 i329_54 kc_8 (zr_13_3 i329_55 nz_8 (zr_0 i329_56 kc_256 (zr_13_4 i329_57 nz_256 (zr_1_6 i329_58 (zr_1_7 i329_59 (zr_1_8 i329_60 (zr_0 i329_61 kc_1 (zr_1_3 i329_62 (zr_0 i329_63 kc_1024 (zr_13_3 i329_64 nz_1024 (zr_0 i329_65 kc_15 (zr_13_4 i329_66 nz_15 (zr_13_0 i329_67 (zr_1_4 i329_68 (zr_0 i329_69 kc_2 (zr_13_4 i329_70 nz_2 (zt_rfl)))))))))))))))))))))))))) ?_
  have f := jrem (x := b / 64) (y := 3) (jdv hb (by decide)).1 (by decide)
  generalize (zrem (b / 64) 3) = kd at f ⊢
  have hkd := f
  rw [jk_3] at hkd
  have f := jrem (x := c / 8) (y := 256) (jdv hc (by decide)).1 (by decide)
  generalize (zrem (c / 8) 256) = po at f ⊢
  have hpo := f
  rw [jk_256] at hpo
  have hpl := jrem (x := b / 1024) (y := 15) (jdv hb (by decide)).1 (by decide)
  rw [jk_15] at hpl
  have f := (show 1 ≤ (1 + (zrem (b / 1024) 15)).toInt ∧ (1 + (zrem (b / 1024) 15)).toInt ≤ 15 by rw [jp1 hpl (by decide)]; omega)
  generalize (1 + (zrem (b / 1024) 15)) = pl at f ⊢
  have hpl2 := f
  by_cases c2 : ((zrem c 2) = 0)
  · refine zH_pre (zt_cast (zr_18_1 i329_71 (fun _ => zt_rfl) (fun _ => zt_rfl)) (if_pos c2)) ?_
    refine zH_pre (zr_0 i329_72 kc_1 (zr_17 i329_73 (zt_rfl))) ?_
    have hP : jP152 p kd po h q u pl 1 S := ⟨jI_n (by omega) w.1, (Or.inr rfl), hp, (by simp only [zk_lt, zk_le, zk_1, jk_0, jk_2, jk_3, jk_4, jk_5, jk_6, jk_7, jk_8, jk_10, jk_11, jk_13, jk_14, jk_15, jk_16, jk_18, jk_20, jk_24, jk_25, jk_36, jk_40, jk_50, jk_64, jk_72, jk_100, jk_120, jk_200, jk_201, jk_216, jk_255, jk_256, jk_257, jk_512, jk_1000, jk_2048, jk_9999, jk_10000, jk_65521, jk_65536, jk_104729, jk_2147483647, jk_m1, jk_m2, jk_m3, jk_m4, jk_m5, jk_m6, jk_m7, jk_m8, jk_m9, jk_m10, jk_m11, jk_m12, jk_m13, jk_m14]; omega), (by simp only [zk_lt, zk_le, zk_1, jk_0, jk_2, jk_3, jk_4, jk_5, jk_6, jk_7, jk_8, jk_10, jk_11, jk_13, jk_14, jk_15, jk_16, jk_18, jk_20, jk_24, jk_25, jk_36, jk_40, jk_50, jk_64, jk_72, jk_100, jk_120, jk_200, jk_201, jk_216, jk_255, jk_256, jk_257, jk_512, jk_1000, jk_2048, jk_9999, jk_10000, jk_65521, jk_65536, jk_104729, jk_2147483647, jk_m1, jk_m2, jk_m3, jk_m4, jk_m5, jk_m6, jk_m7, jk_m8, jk_m9, jk_m10, jk_m11, jk_m12, jk_m13, jk_m14]; omega), (hu.elim (fun e => by rw [if_pos e]; simp only [zk_lt, zk_le, zk_1, jk_0, jk_2, jk_3, jk_4, jk_5, jk_6, jk_7, jk_8, jk_10, jk_11, jk_13, jk_14, jk_15, jk_16, jk_18, jk_20, jk_24, jk_25, jk_36, jk_40, jk_50, jk_64, jk_72, jk_100, jk_120, jk_200, jk_201, jk_216, jk_255, jk_256, jk_257, jk_512, jk_1000, jk_2048, jk_9999, jk_10000, jk_65521, jk_65536, jk_104729, jk_2147483647, jk_m1, jk_m2, jk_m3, jk_m4, jk_m5, jk_m6, jk_m7, jk_m8, jk_m9, jk_m10, jk_m11, jk_m12, jk_m13, jk_m14]; omega) (fun e => by rw [if_neg (fun e9 => by rw [e9, jk_m1] at e; omega)]; simp only [zk_lt, zk_le, zk_1, jk_0, jk_2, jk_3, jk_4, jk_5, jk_6, jk_7, jk_8, jk_10, jk_11, jk_13, jk_14, jk_15, jk_16, jk_18, jk_20, jk_24, jk_25, jk_36, jk_40, jk_50, jk_64, jk_72, jk_100, jk_120, jk_200, jk_201, jk_216, jk_255, jk_256, jk_257, jk_512, jk_1000, jk_2048, jk_9999, jk_10000, jk_65521, jk_65536, jk_104729, jk_2147483647, jk_m1, jk_m2, jk_m3, jk_m4, jk_m5, jk_m6, jk_m7, jk_m8, jk_m9, jk_m10, jk_m11, jk_m12, jk_m13, jk_m14]; omega))⟩
    refine zH_call (zs_21_8 i329_75 na_152 ob_0 rfl) (y152 p kd po h q u pl 1 S hP) ?_
    have f := jv152 (a := p) (b := kd) (c := po) (g := pl) (by omega) w (by unfold zn; omega) hh hq hu (Or.inr rfl)
    generalize (B152 p kd po h q u pl 1 S) = S1 at f ⊢
    generalize (A152 p kd po h q u pl 1 S) = r at f ⊢
    obtain ⟨i1, c1, e1, k1, k6, h9⟩ := f
    have hT := (rTok_0 (jI_Tok w.1)).1
    have k8 : S1 13 8 = S 1 6 := (jcxk8 c1).trans k6
    have e5 := jk_p _ (rTok_0 (jI_Tok w.1)) (by decide)
    refine zH_pre (zr_3_9 i329_76 (zr_1_9 i329_77 (zt_rfl))) ?_
    by_cases hr : (0 ≤ r)
    · refine zH_pre (zt_cast (zr_18_3 i329_78 (fun _ => zt_rfl) (fun _ => zt_rfl)) (if_pos hr)) ?_
      obtain ⟨g1, g2, g3, g4, g5, g6⟩ : ¬ S 1 6 = 0 ∧ r = S 5 0 ∧ S1 5 0 = (S 5 0) + 1 ∧ S1 40 (S 5 0).toNatClampNeg = 0 ∧ S1 37 (S 5 0).toNatClampNeg = u ∧ (p = -1 ∨ (0 ≤ p.toInt ∧ p.toInt < (S 5 0).toInt ∧ S1 40 p.toNatClampNeg = 0)) := by
        rcases h9 with ⟨e, _⟩ | ⟨e, _⟩ | ⟨e, _⟩ | ⟨e, _⟩ | e
        · rw [e] at hr; exact absurd hr (by decide)
        · rw [e] at hr; exact absurd hr (by decide)
        · rw [e] at hr; exact absurd hr (by decide)
        · rw [e] at hr; exact absurd hr (by decide)
        · exact e
      have h16 : S 1 6 = 1 := (rSea_0 (jI_Sea w.1)).resolve_left g1
      refine zH_pre (zr_2_1 i329_114 (zr_0 i329_115 kc_1 (zr_15 i329_116 (zr_8 i329_117 ar_13 (zx_9_1) kt_1 rfl (zr_0 i329_118 kc_1 (zr_13_0 i329_119 (zr_10 i329_120 ar_13 (zx_9_1) kt_1 (zr_2_1 i329_121 (zr_0 i329_122 kc_8 (zr_8 i329_123 ar_13 (zx_9_8) kt_8 (zupf rfl) (zr_0 i329_124 kc_1 (zt_rfl)))))))))))) ?_
      have f := (show jLaw n (z_up S1 13 1 ((S1 13 1) + 1)) ∧ ((z_up S1 13 1 ((S1 13 1) + 1)) 13 8 = S1 13 8) ∧ (z_up S1 13 1 ((S1 13 1) + 1)) 13 1 = S1 13 1 + 1 ∧ (z_up S1 13 1 ((S1 13 1) + 1)) 5 0 = S1 5 0 ∧ (z_up S1 13 1 ((S1 13 1) + 1)) 40 = S1 40 ∧ (z_up S1 13 1 ((S1 13 1) + 1)) 37 = S1 37 from ⟨⟨jI_13 i1 1 _ rfl, jCx_up1 c1 (by rw [k1, g3]) [] jmem1, jE_13 e1 1 _⟩, zupf rfl, zup_s _ _ _ _, zupci rfl, zupc rfl, zupc rfl⟩)
      generalize (z_up S1 13 1 ((S1 13 1) + 1)) = S2 at f ⊢
      obtain ⟨w2, m8, m1, m5, m40, m37⟩ := f
      have hc : ((S1 13 8) = 1) := k8.trans h16
      refine zH_pre (zt_cast (zr_19_1 i329_125 (fun _ => zt_rfl) (fun _ => zt_rfl)) (if_pos hc)) ?_
      clear hc
      refine zH_pre (zr_1_9 i329_126 (zr_2_1 i329_127 (zr_0 i329_128 kc_1 (zr_8 i329_129 ar_13 (zx_9_1) kt_1 rfl (zr_0 i329_130 kc_1 (zr_13_1 i329_131 (zt_rfl))))))) ?_
      have hc : (r = ((S2 13 1) - 1)) := by rw [m1, k1, jk_sub1]; exact g2
      refine zH_pre (zt_cast (zr_19_1 i329_132 (fun _ => zt_rfl) (fun _ => zt_rfl)) (if_pos hc)) ?_
      clear hc
      refine zH_pre (zr_2_0 i329_133 (zr_1_9 i329_134 (zt_rfl))) ?_
      have hP : jP156 r S2 := ⟨jI_n (by omega) w2.1, jdem (by rw [g2]; exact hT) (by rw [g2, m5, g3, e5]; omega)⟩
      refine zH_call (zs_21_1 i329_135 na_156 ob_0 rfl) (y156 r S2 hP) ?_
      have f := (show (A156 r S2) = 1 from by unfold A156; rw [g2, m40, g4]; exact (zb_1 _).mpr rfl)
      generalize (A156 r S2) = r2 at f ⊢
      have hc : ¬ (r2 = 0) := by rw [f]; decide
      refine zH_pre (zt_cast (zr_18_0 i329_136 (fun _ => zt_rfl) (fun _ => zt_rfl)) (if_neg hc)) ?_
      clear hc
      refine zH_pre (zr_2_0 i329_137 (zr_1_9 i329_138 (zt_rfl))) ?_
      have hP : jP155 r S2 := ⟨jI_n (by omega) w2.1, jdem (by rw [g2]; exact hT) (by rw [g2, m5, g3, e5]; omega)⟩
      refine zH_call (zs_21_1 i329_139 na_155 ob_0 rfl) (y155 r S2 hP) ?_
      have f := (show (A155 r S2) = u from by unfold A155; rw [g2, m37, g5])
      generalize (A155 r S2) = r3 at f ⊢
      refine zH_pre (zr_1_8 i329_140 (zt_rfl)) ?_
      have hc : (r3 = u) := f
      refine zH_pre (zt_cast (zr_19_1 i329_141 (fun _ => zt_rfl) (fun _ => zt_rfl)) (if_pos hc)) ?_
      clear hc
      refine zH_pre (zr_1_5 i329_142 (zr_0 i329_143 kc_m1 (zt_rfl))) ?_
      by_cases cp : (p = (-1))
      · refine zH_pre (zt_cast (zr_19_0 i329_144 (fun _ => zt_rfl) (fun _ => zt_rfl)) (if_pos cp)) ?_
        refine zH_pre (zr_0 i329_149 kc_1 (zr_17 i329_150 (zt_rfl))) ?_
        exact zH_ret (zr_26 i329_152 zo_1) ⟨rfl, jLaw_u (by omega) w2⟩
      · refine zH_pre (zt_cast (zr_19_0 i329_144 (fun _ => zt_rfl) (fun _ => zt_rfl)) (if_neg cp)) ?_
        obtain ⟨p1, p2, p3⟩ := g6.resolve_left cp
        refine zH_pre (zr_2_0 i329_145 (zr_1_5 i329_146 (zt_rfl))) ?_
        have hP : jP156 p S2 := ⟨jI_n (by omega) w2.1, jdem p1 (by rw [m5, g3, e5]; omega)⟩
        refine zH_call (zs_21_1 i329_147 na_156 ob_0 rfl) (y156 p S2 hP) ?_
        have f := (show (A156 p S2) = 1 from by unfold A156; rw [m40, p3]; exact (zb_1 _).mpr rfl)
        generalize (A156 p S2) = r4 at f ⊢
        have hc : ¬ (r4 = 0) := by rw [f]; decide
        refine zH_pre (zt_cast (zr_18_0 i329_148 (fun _ => zt_rfl) (fun _ => zt_rfl)) (if_neg hc)) ?_
        clear hc
        refine zH_pre (zr_0 i329_149 kc_1 (zr_17 i329_150 (zt_rfl))) ?_
        exact zH_ret (zr_26 i329_152 zo_1) ⟨rfl, jLaw_u (by omega) w2⟩
    · refine zH_pre (zt_cast (zr_18_3 i329_78 (fun _ => zt_rfl) (fun _ => zt_rfl)) (if_neg hr)) ?_
      have h2 : S1 = S ∧ ((r = -2 ∧ S 1 6 = 0) ∨ (r = -4 ∧ ¬ S 1 6 = 0 ∧ ¬ p = -1) ∨ (r = -6 ∧ ¬ S 1 6 = 0 ∧ ¬ p = -1) ∨ (r = -11 ∧ ¬ S 1 6 = 0 ∧ S 5 0 = 40)) := by
        rcases h9 with ⟨e1, e2, e3⟩ | ⟨e1, e2, e3, e4⟩ | ⟨e1, e2, e3, e4⟩ | ⟨e1, e2, e3, e4⟩ | ⟨_, e2, _⟩
        · exact ⟨e3, Or.inl ⟨e1, e2⟩⟩
        · exact ⟨e4, Or.inr (Or.inl ⟨e1, e2, e3⟩)⟩
        · exact ⟨e4, Or.inr (Or.inr (Or.inl ⟨e1, e2, e3⟩))⟩
        · exact ⟨e4, Or.inr (Or.inr (Or.inr ⟨e1, e2, e3⟩))⟩
        · rw [e2, zk_le, jk_0] at hr; exact absurd hT hr
      obtain ⟨rfl, h2⟩ := h2
      refine zH_pre (zr_2_1 i329_79 (zr_0 i329_80 kc_8 (zr_8 i329_81 ar_13 (zx_9_8) kt_8 rfl (zt_rfl)))) ?_
      by_cases c8 : ((S1 13 8) = 0)
      · refine zH_pre (zt_cast (zr_18_1 i329_82 (fun _ => zt_rfl) (fun _ => zt_rfl)) (if_pos c8)) ?_
        have hr2 : r = -2 := (h2.resolve_right (fun e => e.elim (fun e => e.2.1 (k8.symm.trans c8)) (fun e => e.elim (fun e => e.2.1 (k8.symm.trans c8)) (fun e => e.2.1 (k8.symm.trans c8))))).1
        refine zH_pre (zr_1_9 i329_83 (zr_0 i329_84 kc_m2 (zt_rfl))) ?_
        have hc : (r = (-2)) := hr2
        refine zH_pre (zt_cast (zr_19_1 i329_85 (fun _ => zt_rfl) (fun _ => zt_rfl)) (if_pos hc)) ?_
        clear hc
        refine zH_pre (zr_0 i329_86 kc_1 (zr_17 i329_87 (zt_rfl))) ?_
        exact zH_ret (zr_26 i329_113 zo_1) ⟨rfl, jLaw_u (by omega) w⟩
      · refine zH_pre (zt_cast (zr_18_1 i329_82 (fun _ => zt_rfl) (fun _ => zt_rfl)) (if_neg c8)) ?_
        have h3 := h2.resolve_left (fun e => c8 (k8.trans e.2))
        refine zH_pre (zr_1_9 i329_90 (zr_0 i329_91 kc_m4 (zt_rfl))) ?_
        by_cases c4 : (r = (-4))
        · refine zH_pre (zt_cast (zr_19_1 i329_92 (fun _ => zt_rfl) (fun _ => zt_rfl)) (if_pos c4)) ?_
          refine zH_pre (zr_1_5 i329_93 (zr_0 i329_94 kc_m1 (zt_rfl))) ?_
          have hc : ¬ (p = (-1)) := by
              intro cp
              rcases h3 with e | e | e
              · exact e.2.2 cp
              · exact e.2.2 cp
              · rw [e.1] at c4; exact absurd c4 (by decide)
          refine zH_pre (zt_cast (zr_19_1 i329_95 (fun _ => zt_rfl) (fun _ => zt_rfl)) (if_neg hc)) ?_
          clear hc
          refine zH_pre (zr_0 i329_110 kc_1 (zr_17 i329_111 (zt_rfl))) ?_
          exact zH_ret (zr_26 i329_113 zo_1) ⟨rfl, jLaw_u (by omega) w⟩
        · refine zH_pre (zt_cast (zr_19_1 i329_92 (fun _ => zt_rfl) (fun _ => zt_rfl)) (if_neg c4)) ?_
          have h4 := h3.resolve_left (fun e => c4 e.1)
          refine zH_pre (zr_1_9 i329_96 (zr_0 i329_97 kc_m6 (zt_rfl))) ?_
          by_cases c6 : (r = (-6))
          · refine zH_pre (zt_cast (zr_19_1 i329_98 (fun _ => zt_rfl) (fun _ => zt_rfl)) (if_pos c6)) ?_
            refine zH_pre (zr_1_5 i329_99 (zr_0 i329_100 kc_m1 (zt_rfl))) ?_
            have hc : ¬ (p = (-1)) := by
                intro cp
                rcases h4 with e | e
                · exact e.2.2 cp
                · rw [e.1] at c6; exact absurd c6 (by decide)
            refine zH_pre (zt_cast (zr_19_1 i329_101 (fun _ => zt_rfl) (fun _ => zt_rfl)) (if_neg hc)) ?_
            clear hc
            refine zH_pre (zr_0 i329_110 kc_1 (zr_17 i329_111 (zt_rfl))) ?_
            exact zH_ret (zr_26 i329_113 zo_1) ⟨rfl, jLaw_u (by omega) w⟩
          · refine zH_pre (zt_cast (zr_19_1 i329_98 (fun _ => zt_rfl) (fun _ => zt_rfl)) (if_neg c6)) ?_
            have h5 := h4.resolve_left (fun e => c6 e.1)
            refine zH_pre (zr_1_9 i329_102 (zr_0 i329_103 kc_m11 (zt_rfl))) ?_
            have hc : (r = (-11)) := h5.1
            refine zH_pre (zt_cast (zr_19_1 i329_104 (fun _ => zt_rfl) (fun _ => zt_rfl)) (if_pos hc)) ?_
            clear hc
            refine zH_pre (zr_2_1 i329_105 (zr_0 i329_106 kc_1 (zr_8 i329_107 ar_13 (zx_9_1) kt_1 rfl (zr_0 i329_108 kc_40 (zt_rfl))))) ?_
            have hc : ((S1 13 1) = 40) := (jcx1 w.2.1).trans h5.2.2
            refine zH_pre (zt_cast (zr_19_1 i329_109 (fun _ => zt_rfl) (fun _ => zt_rfl)) (if_pos hc)) ?_
            clear hc
            refine zH_pre (zr_0 i329_110 kc_1 (zr_17 i329_111 (zt_rfl))) ?_
            exact zH_ret (zr_26 i329_113 zo_1) ⟨rfl, jLaw_u (by omega) w⟩
  · refine zH_pre (zt_cast (zr_18_1 i329_71 (fun _ => zt_rfl) (fun _ => zt_rfl)) (if_neg c2)) ?_
    refine zH_pre (zr_0 i329_74 kc_0 (zt_rfl)) ?_
    have hP : jP152 p kd po h q u pl 0 S := ⟨jI_n (by omega) w.1, (Or.inl rfl), hp, (by simp only [zk_lt, zk_le, zk_1, jk_0, jk_2, jk_3, jk_4, jk_5, jk_6, jk_7, jk_8, jk_10, jk_11, jk_13, jk_14, jk_15, jk_16, jk_18, jk_20, jk_24, jk_25, jk_36, jk_40, jk_50, jk_64, jk_72, jk_100, jk_120, jk_200, jk_201, jk_216, jk_255, jk_256, jk_257, jk_512, jk_1000, jk_2048, jk_9999, jk_10000, jk_65521, jk_65536, jk_104729, jk_2147483647, jk_m1, jk_m2, jk_m3, jk_m4, jk_m5, jk_m6, jk_m7, jk_m8, jk_m9, jk_m10, jk_m11, jk_m12, jk_m13, jk_m14]; omega), (by simp only [zk_lt, zk_le, zk_1, jk_0, jk_2, jk_3, jk_4, jk_5, jk_6, jk_7, jk_8, jk_10, jk_11, jk_13, jk_14, jk_15, jk_16, jk_18, jk_20, jk_24, jk_25, jk_36, jk_40, jk_50, jk_64, jk_72, jk_100, jk_120, jk_200, jk_201, jk_216, jk_255, jk_256, jk_257, jk_512, jk_1000, jk_2048, jk_9999, jk_10000, jk_65521, jk_65536, jk_104729, jk_2147483647, jk_m1, jk_m2, jk_m3, jk_m4, jk_m5, jk_m6, jk_m7, jk_m8, jk_m9, jk_m10, jk_m11, jk_m12, jk_m13, jk_m14]; omega), (hu.elim (fun e => by rw [if_pos e]; simp only [zk_lt, zk_le, zk_1, jk_0, jk_2, jk_3, jk_4, jk_5, jk_6, jk_7, jk_8, jk_10, jk_11, jk_13, jk_14, jk_15, jk_16, jk_18, jk_20, jk_24, jk_25, jk_36, jk_40, jk_50, jk_64, jk_72, jk_100, jk_120, jk_200, jk_201, jk_216, jk_255, jk_256, jk_257, jk_512, jk_1000, jk_2048, jk_9999, jk_10000, jk_65521, jk_65536, jk_104729, jk_2147483647, jk_m1, jk_m2, jk_m3, jk_m4, jk_m5, jk_m6, jk_m7, jk_m8, jk_m9, jk_m10, jk_m11, jk_m12, jk_m13, jk_m14]; omega) (fun e => by rw [if_neg (fun e9 => by rw [e9, jk_m1] at e; omega)]; simp only [zk_lt, zk_le, zk_1, jk_0, jk_2, jk_3, jk_4, jk_5, jk_6, jk_7, jk_8, jk_10, jk_11, jk_13, jk_14, jk_15, jk_16, jk_18, jk_20, jk_24, jk_25, jk_36, jk_40, jk_50, jk_64, jk_72, jk_100, jk_120, jk_200, jk_201, jk_216, jk_255, jk_256, jk_257, jk_512, jk_1000, jk_2048, jk_9999, jk_10000, jk_65521, jk_65536, jk_104729, jk_2147483647, jk_m1, jk_m2, jk_m3, jk_m4, jk_m5, jk_m6, jk_m7, jk_m8, jk_m9, jk_m10, jk_m11, jk_m12, jk_m13, jk_m14]; omega))⟩
    refine zH_call (zs_21_8 i329_75 na_152 ob_0 rfl) (y152 p kd po h q u pl 0 S hP) ?_
    have f := jv152 (a := p) (b := kd) (c := po) (g := pl) (by omega) w (by unfold zn; omega) hh hq hu (Or.inl rfl)
    generalize (B152 p kd po h q u pl 0 S) = S1 at f ⊢
    generalize (A152 p kd po h q u pl 0 S) = r at f ⊢
    obtain ⟨i1, c1, e1, k1, k6, h9⟩ := f
    have hT := (rTok_0 (jI_Tok w.1)).1
    have k8 : S1 13 8 = S 1 6 := (jcxk8 c1).trans k6
    have e5 := jk_p _ (rTok_0 (jI_Tok w.1)) (by decide)
    refine zH_pre (zr_3_9 i329_76 (zr_1_9 i329_77 (zt_rfl))) ?_
    by_cases hr : (0 ≤ r)
    · refine zH_pre (zt_cast (zr_18_3 i329_78 (fun _ => zt_rfl) (fun _ => zt_rfl)) (if_pos hr)) ?_
      obtain ⟨g1, g2, g3, g4, g5, g6⟩ : ¬ S 1 6 = 0 ∧ r = S 5 0 ∧ S1 5 0 = (S 5 0) + 1 ∧ S1 40 (S 5 0).toNatClampNeg = 0 ∧ S1 37 (S 5 0).toNatClampNeg = u ∧ (p = -1 ∨ (0 ≤ p.toInt ∧ p.toInt < (S 5 0).toInt ∧ S1 40 p.toNatClampNeg = 0)) := by
        rcases h9 with ⟨e, _⟩ | ⟨e, _⟩ | ⟨e, _⟩ | ⟨e, _⟩ | e
        · rw [e] at hr; exact absurd hr (by decide)
        · rw [e] at hr; exact absurd hr (by decide)
        · rw [e] at hr; exact absurd hr (by decide)
        · rw [e] at hr; exact absurd hr (by decide)
        · exact e
      have h16 : S 1 6 = 1 := (rSea_0 (jI_Sea w.1)).resolve_left g1
      refine zH_pre (zr_2_1 i329_114 (zr_0 i329_115 kc_1 (zr_15 i329_116 (zr_8 i329_117 ar_13 (zx_9_1) kt_1 rfl (zr_0 i329_118 kc_1 (zr_13_0 i329_119 (zr_10 i329_120 ar_13 (zx_9_1) kt_1 (zr_2_1 i329_121 (zr_0 i329_122 kc_8 (zr_8 i329_123 ar_13 (zx_9_8) kt_8 (zupf rfl) (zr_0 i329_124 kc_1 (zt_rfl)))))))))))) ?_
      have f := (show jLaw n (z_up S1 13 1 ((S1 13 1) + 1)) ∧ ((z_up S1 13 1 ((S1 13 1) + 1)) 13 8 = S1 13 8) ∧ (z_up S1 13 1 ((S1 13 1) + 1)) 13 1 = S1 13 1 + 1 ∧ (z_up S1 13 1 ((S1 13 1) + 1)) 5 0 = S1 5 0 ∧ (z_up S1 13 1 ((S1 13 1) + 1)) 40 = S1 40 ∧ (z_up S1 13 1 ((S1 13 1) + 1)) 37 = S1 37 from ⟨⟨jI_13 i1 1 _ rfl, jCx_up1 c1 (by rw [k1, g3]) [] jmem1, jE_13 e1 1 _⟩, zupf rfl, zup_s _ _ _ _, zupci rfl, zupc rfl, zupc rfl⟩)
      generalize (z_up S1 13 1 ((S1 13 1) + 1)) = S2 at f ⊢
      obtain ⟨w2, m8, m1, m5, m40, m37⟩ := f
      have hc : ((S1 13 8) = 1) := k8.trans h16
      refine zH_pre (zt_cast (zr_19_1 i329_125 (fun _ => zt_rfl) (fun _ => zt_rfl)) (if_pos hc)) ?_
      clear hc
      refine zH_pre (zr_1_9 i329_126 (zr_2_1 i329_127 (zr_0 i329_128 kc_1 (zr_8 i329_129 ar_13 (zx_9_1) kt_1 rfl (zr_0 i329_130 kc_1 (zr_13_1 i329_131 (zt_rfl))))))) ?_
      have hc : (r = ((S2 13 1) - 1)) := by rw [m1, k1, jk_sub1]; exact g2
      refine zH_pre (zt_cast (zr_19_1 i329_132 (fun _ => zt_rfl) (fun _ => zt_rfl)) (if_pos hc)) ?_
      clear hc
      refine zH_pre (zr_2_0 i329_133 (zr_1_9 i329_134 (zt_rfl))) ?_
      have hP : jP156 r S2 := ⟨jI_n (by omega) w2.1, jdem (by rw [g2]; exact hT) (by rw [g2, m5, g3, e5]; omega)⟩
      refine zH_call (zs_21_1 i329_135 na_156 ob_0 rfl) (y156 r S2 hP) ?_
      have f := (show (A156 r S2) = 1 from by unfold A156; rw [g2, m40, g4]; exact (zb_1 _).mpr rfl)
      generalize (A156 r S2) = r2 at f ⊢
      have hc : ¬ (r2 = 0) := by rw [f]; decide
      refine zH_pre (zt_cast (zr_18_0 i329_136 (fun _ => zt_rfl) (fun _ => zt_rfl)) (if_neg hc)) ?_
      clear hc
      refine zH_pre (zr_2_0 i329_137 (zr_1_9 i329_138 (zt_rfl))) ?_
      have hP : jP155 r S2 := ⟨jI_n (by omega) w2.1, jdem (by rw [g2]; exact hT) (by rw [g2, m5, g3, e5]; omega)⟩
      refine zH_call (zs_21_1 i329_139 na_155 ob_0 rfl) (y155 r S2 hP) ?_
      have f := (show (A155 r S2) = u from by unfold A155; rw [g2, m37, g5])
      generalize (A155 r S2) = r3 at f ⊢
      refine zH_pre (zr_1_8 i329_140 (zt_rfl)) ?_
      have hc : (r3 = u) := f
      refine zH_pre (zt_cast (zr_19_1 i329_141 (fun _ => zt_rfl) (fun _ => zt_rfl)) (if_pos hc)) ?_
      clear hc
      refine zH_pre (zr_1_5 i329_142 (zr_0 i329_143 kc_m1 (zt_rfl))) ?_
      by_cases cp : (p = (-1))
      · refine zH_pre (zt_cast (zr_19_0 i329_144 (fun _ => zt_rfl) (fun _ => zt_rfl)) (if_pos cp)) ?_
        refine zH_pre (zr_0 i329_149 kc_1 (zr_17 i329_150 (zt_rfl))) ?_
        exact zH_ret (zr_26 i329_152 zo_1) ⟨rfl, jLaw_u (by omega) w2⟩
      · refine zH_pre (zt_cast (zr_19_0 i329_144 (fun _ => zt_rfl) (fun _ => zt_rfl)) (if_neg cp)) ?_
        obtain ⟨p1, p2, p3⟩ := g6.resolve_left cp
        refine zH_pre (zr_2_0 i329_145 (zr_1_5 i329_146 (zt_rfl))) ?_
        have hP : jP156 p S2 := ⟨jI_n (by omega) w2.1, jdem p1 (by rw [m5, g3, e5]; omega)⟩
        refine zH_call (zs_21_1 i329_147 na_156 ob_0 rfl) (y156 p S2 hP) ?_
        have f := (show (A156 p S2) = 1 from by unfold A156; rw [m40, p3]; exact (zb_1 _).mpr rfl)
        generalize (A156 p S2) = r4 at f ⊢
        have hc : ¬ (r4 = 0) := by rw [f]; decide
        refine zH_pre (zt_cast (zr_18_0 i329_148 (fun _ => zt_rfl) (fun _ => zt_rfl)) (if_neg hc)) ?_
        clear hc
        refine zH_pre (zr_0 i329_149 kc_1 (zr_17 i329_150 (zt_rfl))) ?_
        exact zH_ret (zr_26 i329_152 zo_1) ⟨rfl, jLaw_u (by omega) w2⟩
    · refine zH_pre (zt_cast (zr_18_3 i329_78 (fun _ => zt_rfl) (fun _ => zt_rfl)) (if_neg hr)) ?_
      have h2 : S1 = S ∧ ((r = -2 ∧ S 1 6 = 0) ∨ (r = -4 ∧ ¬ S 1 6 = 0 ∧ ¬ p = -1) ∨ (r = -6 ∧ ¬ S 1 6 = 0 ∧ ¬ p = -1) ∨ (r = -11 ∧ ¬ S 1 6 = 0 ∧ S 5 0 = 40)) := by
        rcases h9 with ⟨e1, e2, e3⟩ | ⟨e1, e2, e3, e4⟩ | ⟨e1, e2, e3, e4⟩ | ⟨e1, e2, e3, e4⟩ | ⟨_, e2, _⟩
        · exact ⟨e3, Or.inl ⟨e1, e2⟩⟩
        · exact ⟨e4, Or.inr (Or.inl ⟨e1, e2, e3⟩)⟩
        · exact ⟨e4, Or.inr (Or.inr (Or.inl ⟨e1, e2, e3⟩))⟩
        · exact ⟨e4, Or.inr (Or.inr (Or.inr ⟨e1, e2, e3⟩))⟩
        · rw [e2, zk_le, jk_0] at hr; exact absurd hT hr
      obtain ⟨rfl, h2⟩ := h2
      refine zH_pre (zr_2_1 i329_79 (zr_0 i329_80 kc_8 (zr_8 i329_81 ar_13 (zx_9_8) kt_8 rfl (zt_rfl)))) ?_
      by_cases c8 : ((S1 13 8) = 0)
      · refine zH_pre (zt_cast (zr_18_1 i329_82 (fun _ => zt_rfl) (fun _ => zt_rfl)) (if_pos c8)) ?_
        have hr2 : r = -2 := (h2.resolve_right (fun e => e.elim (fun e => e.2.1 (k8.symm.trans c8)) (fun e => e.elim (fun e => e.2.1 (k8.symm.trans c8)) (fun e => e.2.1 (k8.symm.trans c8))))).1
        refine zH_pre (zr_1_9 i329_83 (zr_0 i329_84 kc_m2 (zt_rfl))) ?_
        have hc : (r = (-2)) := hr2
        refine zH_pre (zt_cast (zr_19_1 i329_85 (fun _ => zt_rfl) (fun _ => zt_rfl)) (if_pos hc)) ?_
        clear hc
        refine zH_pre (zr_0 i329_86 kc_1 (zr_17 i329_87 (zt_rfl))) ?_
        exact zH_ret (zr_26 i329_113 zo_1) ⟨rfl, jLaw_u (by omega) w⟩
      · refine zH_pre (zt_cast (zr_18_1 i329_82 (fun _ => zt_rfl) (fun _ => zt_rfl)) (if_neg c8)) ?_
        have h3 := h2.resolve_left (fun e => c8 (k8.trans e.2))
        refine zH_pre (zr_1_9 i329_90 (zr_0 i329_91 kc_m4 (zt_rfl))) ?_
        by_cases c4 : (r = (-4))
        · refine zH_pre (zt_cast (zr_19_1 i329_92 (fun _ => zt_rfl) (fun _ => zt_rfl)) (if_pos c4)) ?_
          refine zH_pre (zr_1_5 i329_93 (zr_0 i329_94 kc_m1 (zt_rfl))) ?_
          have hc : ¬ (p = (-1)) := by
              intro cp
              rcases h3 with e | e | e
              · exact e.2.2 cp
              · exact e.2.2 cp
              · rw [e.1] at c4; exact absurd c4 (by decide)
          refine zH_pre (zt_cast (zr_19_1 i329_95 (fun _ => zt_rfl) (fun _ => zt_rfl)) (if_neg hc)) ?_
          clear hc
          refine zH_pre (zr_0 i329_110 kc_1 (zr_17 i329_111 (zt_rfl))) ?_
          exact zH_ret (zr_26 i329_113 zo_1) ⟨rfl, jLaw_u (by omega) w⟩
        · refine zH_pre (zt_cast (zr_19_1 i329_92 (fun _ => zt_rfl) (fun _ => zt_rfl)) (if_neg c4)) ?_
          have h4 := h3.resolve_left (fun e => c4 e.1)
          refine zH_pre (zr_1_9 i329_96 (zr_0 i329_97 kc_m6 (zt_rfl))) ?_
          by_cases c6 : (r = (-6))
          · refine zH_pre (zt_cast (zr_19_1 i329_98 (fun _ => zt_rfl) (fun _ => zt_rfl)) (if_pos c6)) ?_
            refine zH_pre (zr_1_5 i329_99 (zr_0 i329_100 kc_m1 (zt_rfl))) ?_
            have hc : ¬ (p = (-1)) := by
                intro cp
                rcases h4 with e | e
                · exact e.2.2 cp
                · rw [e.1] at c6; exact absurd c6 (by decide)
            refine zH_pre (zt_cast (zr_19_1 i329_101 (fun _ => zt_rfl) (fun _ => zt_rfl)) (if_neg hc)) ?_
            clear hc
            refine zH_pre (zr_0 i329_110 kc_1 (zr_17 i329_111 (zt_rfl))) ?_
            exact zH_ret (zr_26 i329_113 zo_1) ⟨rfl, jLaw_u (by omega) w⟩
          · refine zH_pre (zt_cast (zr_19_1 i329_98 (fun _ => zt_rfl) (fun _ => zt_rfl)) (if_neg c6)) ?_
            have h5 := h4.resolve_left (fun e => c6 e.1)
            refine zH_pre (zr_1_9 i329_102 (zr_0 i329_103 kc_m11 (zt_rfl))) ?_
            have hc : (r = (-11)) := h5.1
            refine zH_pre (zt_cast (zr_19_1 i329_104 (fun _ => zt_rfl) (fun _ => zt_rfl)) (if_pos hc)) ?_
            clear hc
            refine zH_pre (zr_2_1 i329_105 (zr_0 i329_106 kc_1 (zr_8 i329_107 ar_13 (zx_9_1) kt_1 rfl (zr_0 i329_108 kc_40 (zt_rfl))))) ?_
            have hc : ((S1 13 1) = 40) := (jcx1 w.2.1).trans h5.2.2
            refine zH_pre (zt_cast (zr_19_1 i329_109 (fun _ => zt_rfl) (fun _ => zt_rfl)) (if_pos hc)) ?_
            clear hc
            refine zH_pre (zr_0 i329_110 kc_1 (zr_17 i329_111 (zt_rfl))) ?_
            exact zH_ret (zr_26 i329_113 zo_1) ⟨rfl, jLaw_u (by omega) w⟩
set_option maxRecDepth 100000 in
theorem q329 {L : Nat} (a b c : Int32) {S : zS} {n : Nat} (hn : n < 480) (w : jLaw n S) (ha : zn 39 a) (hb : 0 ≤ b.toInt) (hc : 0 ≤ c.toInt) : ∃ S', zf L 329 [.inr (.inr 0), .inr (.inr 13), .inl a, .inl b, .inl c] S (.inl (some (.inl 1)), S', 0) ∧ jLaw (n + 6) S' := by
  refine zH_f (en_329 _ _ _ _ _) ?_
  refine zH_pre (zr_2_1 i329_0 (zr_0 i329_1 kc_1 (zr_8 i329_2 ar_13 (zx_9_1) kt_1 rfl (zt_rfl)))) ?_
  by_cases c1 : ((S 13 1) = 0)
  · refine zH_pre (zt_cast (zr_18_0 i329_3 (fun _ => zt_rfl) (fun _ => zt_rfl)) (if_pos c1)) ?_
    have g0 : (¬ ((201 - (1 + (zrem (b / 256) 100))) = 0)) := by
        have hr1 := jrem (x := b / 256) (y := 100) (jdv hb (by decide)).1 (by decide)
        rw [jk_100] at hr1
        intro e
        have e1 := jp1 hr1 (by decide)
        have e2 := congrArg Int32.toInt e
        rw [zk_tsub (by rw [jk_201, e1]; omega) (by rw [jk_201, e1]; omega), jk_201, e1, jk_0] at e2
        omega
    refine zH_pre (zr_0 i329_8 kc_m1 (zr_17 i329_9 (zr_3_5 i329_11 (zr_0 i329_12 kc_1 (zr_1_3 i329_13 (zr_0 i329_14 kc_256 (zr_13_3 i329_15 nz_256 (zr_0 i329_16 kc_100 (zr_13_4 i329_17 nz_100 (zr_13_0 i329_18 (zr_3_6 i329_19 (zr_1_6 i329_20 (zr_1_4 i329_21 (zr_0 i329_22 kc_2048 (zr_13_3 i329_23 nz_2048 (zr_0 i329_24 kc_201 (zr_1_6 i329_25 (zr_13_1 i329_26 (zr_13_4 i329_27 (g0) (zr_13_0 i329_28 (zr_3_7 i329_29 (zr_1_4 i329_30 (zr_0 i329_31 kc_16 (zr_13_3 i329_32 nz_16 (zr_0 i329_33 kc_3 (zr_13_4 i329_34 nz_3 (zt_rfl))))))))))))))))))))))))))) ?_
    have hr1 := jrem (x := b / 256) (y := 100) (jdv hb (by decide)).1 (by decide)
    rw [jk_100] at hr1
    have f := (show 1 ≤ (1 + (zrem (b / 256) 100)).toInt ∧ (1 + (zrem (b / 256) 100)).toInt ≤ 100 by rw [jp1 hr1 (by decide)]; omega)
    generalize (1 + (zrem (b / 256) 100)) = h at f ⊢
    have hh := f
    clear f
    clear g0
    have e201 : (201 - h).toInt = 201 - h.toInt := by rw [zk_tsub (by rw [jk_201]; omega) (by rw [jk_201]; omega), jk_201]
    have hr2 := jrem (x := c / 2048) (y := 201 - h) (jdv hc (by decide)).1 (by rw [e201]; omega)
    rw [e201] at hr2
    have hq : h.toInt ≤ (h + (zrem (c / 2048) (201 - h))).toInt ∧ (h + (zrem (c / 2048) (201 - h))).toInt ≤ 200 := by rw [zk_tadd (by omega) (by omega)]; omega
    by_cases cu : ((zrem (c / 16) 3) = 0)
    · refine zH_pre (zt_cast (zr_18_1 i329_35 (fun _ => zt_rfl) (fun _ => zt_rfl)) (if_pos cu)) ?_
      refine zH_pre (zr_0 i329_36 kc_1 (zr_1_4 i329_37 (zr_0 i329_38 kc_64 (zr_13_3 i329_39 nz_64 (zr_0 i329_40 kc_20 (zr_13_4 i329_41 nz_20 (zr_13_0 i329_42 (zr_17 i329_43 (zr_3_8 i329_45 (zt_rfl)))))))))) ?_
      have hr3 := jrem (x := c / 64) (y := 20) (jdv hc (by decide)).1 (by decide)
      rw [jk_20] at hr3
      exact q329c a b c _ _ _ _ hn w hb hc (Or.inl rfl) hh hq (Or.inr (by rw [jp1 hr3 (by decide)]; omega))
    · refine zH_pre (zt_cast (zr_18_1 i329_35 (fun _ => zt_rfl) (fun _ => zt_rfl)) (if_neg cu)) ?_
      refine zH_pre (zr_0 i329_44 kc_m1 (zr_3_8 i329_45 (zt_rfl))) ?_
      exact q329c a b c _ _ _ _ hn w hb hc (Or.inl rfl) hh hq (Or.inl rfl)
  · refine zH_pre (zt_cast (zr_18_0 i329_3 (fun _ => zt_rfl) (fun _ => zt_rfl)) (if_neg c1)) ?_
    refine zH_pre (zr_1_4 i329_4 (zr_0 i329_5 kc_5 (zr_13_4 i329_6 nz_5 (zt_rfl)))) ?_
    by_cases c5 : ((zrem c 5) = 0)
    · refine zH_pre (zt_cast (zr_18_1 i329_7 (fun _ => zt_rfl) (fun _ => zt_rfl)) (if_pos c5)) ?_
      have g0 : (¬ ((201 - (1 + (zrem (b / 256) 100))) = 0)) := by
          have hr1 := jrem (x := b / 256) (y := 100) (jdv hb (by decide)).1 (by decide)
          rw [jk_100] at hr1
          intro e
          have e1 := jp1 hr1 (by decide)
          have e2 := congrArg Int32.toInt e
          rw [zk_tsub (by rw [jk_201, e1]; omega) (by rw [jk_201, e1]; omega), jk_201, e1, jk_0] at e2
          omega
      refine zH_pre (zr_0 i329_8 kc_m1 (zr_17 i329_9 (zr_3_5 i329_11 (zr_0 i329_12 kc_1 (zr_1_3 i329_13 (zr_0 i329_14 kc_256 (zr_13_3 i329_15 nz_256 (zr_0 i329_16 kc_100 (zr_13_4 i329_17 nz_100 (zr_13_0 i329_18 (zr_3_6 i329_19 (zr_1_6 i329_20 (zr_1_4 i329_21 (zr_0 i329_22 kc_2048 (zr_13_3 i329_23 nz_2048 (zr_0 i329_24 kc_201 (zr_1_6 i329_25 (zr_13_1 i329_26 (zr_13_4 i329_27 (g0) (zr_13_0 i329_28 (zr_3_7 i329_29 (zr_1_4 i329_30 (zr_0 i329_31 kc_16 (zr_13_3 i329_32 nz_16 (zr_0 i329_33 kc_3 (zr_13_4 i329_34 nz_3 (zt_rfl))))))))))))))))))))))))))) ?_
      have hr1 := jrem (x := b / 256) (y := 100) (jdv hb (by decide)).1 (by decide)
      rw [jk_100] at hr1
      have f := (show 1 ≤ (1 + (zrem (b / 256) 100)).toInt ∧ (1 + (zrem (b / 256) 100)).toInt ≤ 100 by rw [jp1 hr1 (by decide)]; omega)
      generalize (1 + (zrem (b / 256) 100)) = h at f ⊢
      have hh := f
      clear f
      clear g0
      have e201 : (201 - h).toInt = 201 - h.toInt := by rw [zk_tsub (by rw [jk_201]; omega) (by rw [jk_201]; omega), jk_201]
      have hr2 := jrem (x := c / 2048) (y := 201 - h) (jdv hc (by decide)).1 (by rw [e201]; omega)
      rw [e201] at hr2
      have hq : h.toInt ≤ (h + (zrem (c / 2048) (201 - h))).toInt ∧ (h + (zrem (c / 2048) (201 - h))).toInt ≤ 200 := by rw [zk_tadd (by omega) (by omega)]; omega
      by_cases cu : ((zrem (c / 16) 3) = 0)
      · refine zH_pre (zt_cast (zr_18_1 i329_35 (fun _ => zt_rfl) (fun _ => zt_rfl)) (if_pos cu)) ?_
        refine zH_pre (zr_0 i329_36 kc_1 (zr_1_4 i329_37 (zr_0 i329_38 kc_64 (zr_13_3 i329_39 nz_64 (zr_0 i329_40 kc_20 (zr_13_4 i329_41 nz_20 (zr_13_0 i329_42 (zr_17 i329_43 (zr_3_8 i329_45 (zt_rfl)))))))))) ?_
        have hr3 := jrem (x := c / 64) (y := 20) (jdv hc (by decide)).1 (by decide)
        rw [jk_20] at hr3
        exact q329c a b c _ _ _ _ hn w hb hc (Or.inl rfl) hh hq (Or.inr (by rw [jp1 hr3 (by decide)]; omega))
      · refine zH_pre (zt_cast (zr_18_1 i329_35 (fun _ => zt_rfl) (fun _ => zt_rfl)) (if_neg cu)) ?_
        refine zH_pre (zr_0 i329_44 kc_m1 (zr_3_8 i329_45 (zt_rfl))) ?_
        exact q329c a b c _ _ _ _ hn w hb hc (Or.inl rfl) hh hq (Or.inl rfl)
    · refine zH_pre (zt_cast (zr_18_1 i329_7 (fun _ => zt_rfl) (fun _ => zt_rfl)) (if_neg c5)) ?_
      have g0 : (¬ ((201 - (1 + (zrem (b / 256) 100))) = 0)) := by
          have hr1 := jrem (x := b / 256) (y := 100) (jdv hb (by decide)).1 (by decide)
          rw [jk_100] at hr1
          intro e
          have e1 := jp1 hr1 (by decide)
          have e2 := congrArg Int32.toInt e
          rw [zk_tsub (by rw [jk_201, e1]; omega) (by rw [jk_201, e1]; omega), jk_201, e1, jk_0] at e2
          omega
      refine zH_pre (zr_1_2 i329_10 (zr_3_5 i329_11 (zr_0 i329_12 kc_1 (zr_1_3 i329_13 (zr_0 i329_14 kc_256 (zr_13_3 i329_15 nz_256 (zr_0 i329_16 kc_100 (zr_13_4 i329_17 nz_100 (zr_13_0 i329_18 (zr_3_6 i329_19 (zr_1_6 i329_20 (zr_1_4 i329_21 (zr_0 i329_22 kc_2048 (zr_13_3 i329_23 nz_2048 (zr_0 i329_24 kc_201 (zr_1_6 i329_25 (zr_13_1 i329_26 (zr_13_4 i329_27 (g0) (zr_13_0 i329_28 (zr_3_7 i329_29 (zr_1_4 i329_30 (zr_0 i329_31 kc_16 (zr_13_3 i329_32 nz_16 (zr_0 i329_33 kc_3 (zr_13_4 i329_34 nz_3 (zt_rfl)))))))))))))))))))))))))) ?_
      have hr1 := jrem (x := b / 256) (y := 100) (jdv hb (by decide)).1 (by decide)
      rw [jk_100] at hr1
      have f := (show 1 ≤ (1 + (zrem (b / 256) 100)).toInt ∧ (1 + (zrem (b / 256) 100)).toInt ≤ 100 by rw [jp1 hr1 (by decide)]; omega)
      generalize (1 + (zrem (b / 256) 100)) = h at f ⊢
      have hh := f
      clear f
      clear g0
      have e201 : (201 - h).toInt = 201 - h.toInt := by rw [zk_tsub (by rw [jk_201]; omega) (by rw [jk_201]; omega), jk_201]
      have hr2 := jrem (x := c / 2048) (y := 201 - h) (jdv hc (by decide)).1 (by rw [e201]; omega)
      rw [e201] at hr2
      have hq : h.toInt ≤ (h + (zrem (c / 2048) (201 - h))).toInt ∧ (h + (zrem (c / 2048) (201 - h))).toInt ≤ 200 := by rw [zk_tadd (by omega) (by omega)]; omega
      by_cases cu : ((zrem (c / 16) 3) = 0)
      · refine zH_pre (zt_cast (zr_18_1 i329_35 (fun _ => zt_rfl) (fun _ => zt_rfl)) (if_pos cu)) ?_
        refine zH_pre (zr_0 i329_36 kc_1 (zr_1_4 i329_37 (zr_0 i329_38 kc_64 (zr_13_3 i329_39 nz_64 (zr_0 i329_40 kc_20 (zr_13_4 i329_41 nz_20 (zr_13_0 i329_42 (zr_17 i329_43 (zr_3_8 i329_45 (zt_rfl)))))))))) ?_
        have hr3 := jrem (x := c / 64) (y := 20) (jdv hc (by decide)).1 (by decide)
        rw [jk_20] at hr3
        exact q329c a b c _ _ _ _ hn w hb hc (Or.inr ha) hh hq (Or.inr (by rw [jp1 hr3 (by decide)]; omega))
      · refine zH_pre (zt_cast (zr_18_1 i329_35 (fun _ => zt_rfl) (fun _ => zt_rfl)) (if_neg cu)) ?_
        refine zH_pre (zr_0 i329_44 kc_m1 (zr_3_8 i329_45 (zt_rfl))) ?_
        exact q329c a b c _ _ _ _ hn w hb hc (Or.inr ha) hh hq (Or.inl rfl)
