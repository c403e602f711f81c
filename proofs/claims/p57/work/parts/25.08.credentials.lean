/-! the law: 25.08.credentials (wip/p57/gen) -/

theorem jk_101 : (101 : Int32).toInt = 101 := rfl
theorem jv163 {n : Nat} {S : zS} (hn : n < 490) (w : jLaw n S) {a b c d e : Int32} (ha : zn 39 a) (hc : zx 216 c) (hd : 1 ≤ d.toInt ∧ d.toInt ≤ 50) (he : d.toInt ≤ e.toInt ∧ e.toInt ≤ 100) : jI (n + 1) (B163 a b c d e S) ∧ jCx [2] (B163 a b c d e S) ∧ jE (B163 a b c d e S) ∧ B163 a b c d e S 13 2 = S 6 0 ∧ B163 a b c d e S 1 6 = S 1 6 ∧ B163 a b c d e S 0 11 = S 0 11 ∧ B163 a b c d e S 81 = S 81 ∧ B163 a b c d e S 5 = S 5 ∧ ((jRef (A163 a b c d e S) ∧ B163 a b c d e S 6 0 = S 6 0) ∨ (¬ S 1 6 = 0 ∧ S 16 (c / 36).toNatClampNeg = 1 ∧ A163 a b c d e S = S 6 0 ∧ B163 a b c d e S 6 0 = (S 6 0) + 1 ∧ (B163 a b c d e S 44 (S 6 0).toNatClampNeg).toInt ≤ (S 0 11).toInt + d.toInt ∧ (B163 a b c d e S 46 (S 6 0).toNatClampNeg = 0 → B163 a b c d e S 40 a.toNatClampNeg = 0) ∧ a.toInt < (S 5 0).toInt)) := by
  obtain ⟨h1, h2⟩ := jq163 (by omega) w.1 (b := b) ha.1 hc hd he
  have hp := p_B163 a b c d e S
  exact ⟨h1, jCx_k rfl hp w.2.1, jE_k rfl rfl hp w.2.2, (hp.2 13 2 rfl rfl).trans (jcx2 w.2.1), hp.2 1 6 rfl rfl, hp.2 0 11 rfl rfl, hp.1 81 rfl, hp.1 5 rfl, h2⟩
theorem jv164 {n : Nat} {S : zS} (hn : n < 490) (w : jLaw n S) {a b : Int32} (ha : 0 ≤ a.toInt ∧ a.toInt < (S 6 0).toInt) (hb : 1 ≤ b.toInt ∧ b.toInt ≤ 50) : jLaw n (B164 a b S) ∧ B164 a b S 13 = S 13 ∧ B164 a b S 6 = S 6 ∧ B164 a b S 0 = S 0 ∧ ((S 1 6 = 0 ∧ A164 a b S = -2) ∨ (¬ S 1 6 = 0 ∧ ¬ S 46 a.toNatClampNeg = 0 ∧ A164 a b S = -7) ∨ (¬ S 1 6 = 0 ∧ S 46 a.toNatClampNeg = 0 ∧ (S 0 11).toInt < (A164 a b S).toInt ∧ (A164 a b S).toInt ≤ (S 0 11).toInt + b.toInt ∧ B164 a b S 44 a.toNatClampNeg = A164 a b S)) := by
  obtain ⟨h1, h2⟩ := jq164 (by omega) w.1 ha hb
  have hp := p_B164 a b S
  exact ⟨⟨h1, jCx_k rfl hp w.2.1, jE_k rfl rfl hp w.2.2⟩, hp.1 13 rfl, hp.1 6 rfl, hp.1 0 rfl, h2⟩
def jLo (a b : Int32) : Int := a.toInt * 36 + (if b = -1 then 0 else b.toInt * 6)
def jHi (a b : Int32) : Int := jLo a b + (if b = -1 then 36 else 6)
theorem jv165 {n : Nat} {S : zS} (hn : n < 490) (w : jLaw n S) {a b : Int32} (ha : 0 ≤ a.toInt ∧ a.toInt < 6) (hb : b = -1 ∨ (0 ≤ b.toInt ∧ b.toInt < 6)) : jLaw n (B165 a b S) ∧ B165 a b S 13 = S 13 ∧ B165 a b S 6 = S 6 ∧ B165 a b S 42 = S 42 ∧ 0 ≤ (A165 a b S).toInt ∧ (A165 a b S).toInt ≤ (S 6 0).toInt ∧ (∀ i, i < (S 6 0).toNatClampNeg → B165 a b S 46 i = 0 → (S 42 i).toInt < jLo a b ∨ jHi a b ≤ (S 42 i).toInt) ∧ ((∀ i, i < (S 6 0).toNatClampNeg → S 46 i = 0 → (S 42 i).toInt < jLo a b ∨ jHi a b ≤ (S 42 i).toInt) → A165 a b S = 0) := by
  have hp := p_B165 a b S
  have e36 := (jn36 ha).1
  have eb : (if (b = (-1)) then (0 : Int32) else (b * 6)).toInt = (if b = -1 then 0 else b.toInt * 6) := by
    rcases hb with e | e
    · rw [if_pos e, if_pos e]; rfl
    · have hne : ¬ b = -1 := fun e9 => by rw [e9, jk_m1] at e; omega
      rw [if_neg hne, if_neg hne, zk_tmul (by rw [jk_6]; omega) (by rw [jk_6]; omega), jk_6]
  have hbb : 0 ≤ (if b = -1 then 0 else b.toInt * 6) ∧ (if b = -1 then 0 else b.toInt * 6) ≤ 30 := by
    rcases hb with e | e
    · rw [if_pos e]; decide
    · have hne : ¬ b = -1 := fun e9 => by rw [e9, jk_m1] at e; omega
      rw [if_neg hne]; omega
  have ec : (if (b = (-1)) then (36 : Int32) else 6).toInt = (if b = -1 then 36 else 6) := by split <;> rfl
  have hcc : 0 ≤ (if b = -1 then (36 : Int) else 6) ∧ (if b = -1 then (36 : Int) else 6) ≤ 36 := by split <;> decide
  have eLo : ((a * 36) + (if (b = (-1)) then (0 : Int32) else (b * 6))).toInt = jLo a b := by unfold jLo; rw [zk_tadd (by rw [e36, eb]; omega) (by rw [e36, eb]; omega), e36, eb]
  have hlo : 0 ≤ jLo a b ∧ jLo a b ≤ 300 := by unfold jLo; omega
  have eHi : (((a * 36) + (if (b = (-1)) then (0 : Int32) else (b * 6))) + (if (b = (-1)) then (36 : Int32) else 6)).toInt = jHi a b := by unfold jHi; rw [zk_tadd (by rw [eLo, ec]; omega) (by rw [eLo, ec]; omega), eLo, ec]
  have hI := jw53I ((a * 36) + (if (b = (-1)) then (0 : Int32) else (b * 6))) (((a * 36) + (if (b = (-1)) then (0 : Int32) else (b * 6))) + (if (b = (-1)) then (36 : Int32) else 6)) (by omega) w.1 (x := S 0 11) rfl
  obtain ⟨_, w2, _, w4, w5⟩ := jw53 ((a * 36) + (if (b = (-1)) then (0 : Int32) else (b * 6))) (((a * 36) + (if (b = (-1)) then (0 : Int32) else (b * 6))) + (if (b = (-1)) then (36 : Int32) else 6)) (by omega) (jL_J (jI_J w.1)) (x := S 0 11) rfl
  have hnl := zk_nat (rLea_0 (jI_Lea w.1)).1
  refine ⟨⟨hI, jCx_k rfl hp w.2.1, jE_k rfl rfl hp w.2.2⟩, hp.1 13 rfl, hp.1 6 rfl, hp.1 42 rfl, w2.1, by have := w2.2; show (K53_4_c4 _ _ _ _ _ _).toInt ≤ _; omega, fun i hi e => ?_, fun hh => w5 (fun i hi e => ?_)⟩
  · have := w4 i hi e
    rw [zk_lt, zk_le, eLo, eHi] at this; exact this
  · rw [zk_lt, zk_le, eLo, eHi]; exact hh i hi e

set_option maxRecDepth 100000 in
theorem q332c {L : Nat} (a b c d h : Int32) (u8 u10 u11 u12 : Option zV) {S : zS} {n : Nat} (w : jLaw n S) (hc : zx 216 c) (hd : 0 ≤ d.toInt) (hh : 1 ≤ h.toInt ∧ h.toInt ≤ 50) (hn : n < 489) : zH L 332 (153, [some (.inr (.inr 0)), some (.inr (.inr 13)), some (.inr (.inr 81)), some (.inl a), some (.inl b), some (.inl c), some (.inl d), some (.inl h), u8, some (.inl 1), u10, u11, u12], [], S) (jQ (fun S' => jLaw n S')) := by
  refine zH_pre (zr_1_6 i332_153 (zr_0 i332_154 kc_7 (zr_13_4 i332_155 nz_7 (zt_rfl)))) ?_
  by_cases h7 : ((zrem d 7) = 0)
  · refine zH_pre (zt_cast (zr_18_1 i332_156 (fun _ => zt_rfl) (fun _ => zt_rfl)) (if_pos h7)) ?_
    have h6 := zx_iff.mp (jdiv36 hc)
    have hx := zx_iff.mp hc
    have hs := jrem (x := c / 6) (y := 6) (jdv hx.1 (by decide)).1 (by decide)
    rw [jk_6] at hs
    have hsn : ¬ zrem (c / 6) 6 = -1 := fun e => by rw [e, jk_m1] at hs; omega
    refine zH_pre (zr_1_9 i332_157 (zt_rfl)) ?_
    refine zH_pre (zr_18f_0 i332_158 (by decide) zt_rfl) ?_
    refine zH_pre (zr_2_0 i332_159 (zr_1_5 i332_160 (zr_0 i332_161 kc_36 (zr_13_3 i332_162 nz_36 (zr_1_6 i332_163 (zr_0 i332_164 kc_2 (zr_13_4 i332_165 nz_2 (zt_rfl)))))))) ?_
    by_cases h2 : ((zrem d 2) = 0)
    · refine zH_pre (zt_cast (zr_18_1 i332_166 (fun _ => zt_rfl) (fun _ => zt_rfl)) (if_pos h2)) ?_
      refine zH_pre (zr_0 i332_167 kc_m1 (zr_17 i332_168 (zt_rfl))) ?_
      have hP : jP165 (c / 36) (-1) S := ⟨jI_n (by omega) w.1, ⟨(by simp only [zk_lt, zk_le, jk_m1, zk_1, jk_0, jk_2, jk_3, jk_4, jk_5, jk_6, jk_7, jk_8, jk_10, jk_11, jk_13, jk_14, jk_15, jk_16, jk_18, jk_20, jk_24, jk_25, jk_36, jk_40, jk_50, jk_64, jk_72, jk_100, jk_120, jk_200, jk_201, jk_216, jk_255, jk_256, jk_257, jk_512, jk_1000, jk_2048, jk_9999, jk_10000, jk_65521, jk_65536, jk_104729, jk_2147483647, jk_m1, jk_m2, jk_m3, jk_m4, jk_m5, jk_m6, jk_m7, jk_m8, jk_m9, jk_m10, jk_m11, jk_m12, jk_m13, jk_m14]; omega), Or.inl rfl⟩⟩
      refine zH_call (zs_21_2 i332_174 na_165 ob_0 rfl) (y165 (c / 36) (-1) S hP) ?_
      have f := jv165 (by omega) w h6 (b := -1) (Or.inl rfl)
      generalize (B165 (c / 36) (-1) S) = S1 at f ⊢
      generalize (A165 (c / 36) (-1) S) = r at f ⊢
      obtain ⟨w1, k13, k6, k42, h1, h2, h3, _⟩ := f
      refine zH_pre (zr_3_10 i332_175 (zr_1_10 i332_176 (zt_rfl))) ?_
      have hc : ¬ (r < 0) := by rw [zk_lt, jk_0]; omega
      refine zH_pre (zt_cast (zr_18_2 i332_177 (fun _ => zt_rfl) (fun _ => zt_rfl)) (if_neg hc)) ?_
      clear hc
      refine zH_pre (zr_1_10 i332_178 (zr_2_1 i332_179 (zr_0 i332_180 kc_2 (zr_8 i332_181 ar_13 (zx_9_2) kt_2 rfl (zt_rfl))))) ?_
      have hc : ¬ ((S1 13 2) < r) := by rw [k13, jcx2 w.2.1, zk_lt]; omega
      refine zH_pre (zt_cast (zr_19_4 i332_182 (fun _ => zt_rfl) (fun _ => zt_rfl)) (if_neg hc)) ?_
      clear hc
      refine zH_pre (zr_2_0 i332_183 (zr_1_5 i332_184 (zr_0 i332_185 kc_36 (zr_13_3 i332_186 nz_36 (zr_1_5 i332_187 (zr_0 i332_188 kc_6 (zr_13_3 i332_189 nz_6 (zr_0 i332_190 kc_6 (zr_13_4 i332_191 nz_6 (zt_rfl)))))))))) ?_
      have hP : jP165 (c / 36) (zrem (c / 6) 6) S1 := ⟨jI_n (by omega) w1.1, (by simp only [zk_lt, zk_le, jk_m1, zk_1, jk_0, jk_2, jk_3, jk_4, jk_5, jk_6, jk_7, jk_8, jk_10, jk_11, jk_13, jk_14, jk_15, jk_16, jk_18, jk_20, jk_24, jk_25, jk_36, jk_40, jk_50, jk_64, jk_72, jk_100, jk_120, jk_200, jk_201, jk_216, jk_255, jk_256, jk_257, jk_512, jk_1000, jk_2048, jk_9999, jk_10000, jk_65521, jk_65536, jk_104729, jk_2147483647, jk_m1, jk_m2, jk_m3, jk_m4, jk_m5, jk_m6, jk_m7, jk_m8, jk_m9, jk_m10, jk_m11, jk_m12, jk_m13, jk_m14]; omega)⟩
      refine zH_call (zs_21_2 i332_192 na_165 ob_0 rfl) (y165 (c / 36) (zrem (c / 6) 6) S1 hP) ?_
      have f := (show jLaw n (B165 (c / 36) (zrem (c / 6) 6) S1) ∧ (B165 (c / 36) (zrem (c / 6) 6) S1) 13 = S1 13 ∧ (A165 (c / 36) (zrem (c / 6) 6) S1) = 0 from (fun q => ⟨q.1, q.2.1, q.2.2.2.2.2.2.2 (fun i hi e => by rw [k6] at hi; have := h3 i hi e; rw [k42]; unfold jHi jLo at *; rw [if_pos rfl, if_pos rfl] at this; rw [if_neg hsn, if_neg hsn]; omega)⟩) (jv165 (by omega) w1 h6 (b := zrem (c / 6) 6) (Or.inr hs)))
      generalize (B165 (c / 36) (zrem (c / 6) 6) S1) = S2 at f ⊢
      generalize (A165 (c / 36) (zrem (c / 6) 6) S1) = r2 at f ⊢
      obtain ⟨w2, i13, r0⟩ := f
      refine zH_pre (zr_2_1 i332_193 (zr_0 i332_194 kc_2 (zr_8 i332_195 ar_13 (zx_9_2) kt_2 rfl (zr_1_10 i332_196 (zr_13_1 i332_197 (zt_rfl)))))) ?_
      have hc : ¬ (((S2 13 2) - r) < r2) := by rw [r0, i13, k13, jcx2 w.2.1, zk_lt, jk_0, zk_tsub (by have := (rLea_0 (jI_Lea w.1)).2; omega) (by have := (rLea_0 (jI_Lea w.1)).2; omega)]; omega
      refine zH_pre (zt_cast (zr_19_4 i332_198 (fun _ => zt_rfl) (fun _ => zt_rfl)) (if_neg hc)) ?_
      clear hc
      refine zH_pre (zr_0 i332_199 kc_1 (zr_17 i332_200 (zr_3_9 i332_202 (zr_1_9 i332_203 (zt_rfl))))) ?_
      exact zH_ret (zr_26 i332_204 zo_1) ⟨rfl, w2⟩
    · refine zH_pre (zt_cast (zr_18_1 i332_166 (fun _ => zt_rfl) (fun _ => zt_rfl)) (if_neg h2)) ?_
      refine zH_pre (zr_1_5 i332_169 (zr_0 i332_170 kc_6 (zr_13_3 i332_171 nz_6 (zr_0 i332_172 kc_6 (zr_13_4 i332_173 nz_6 (zt_rfl)))))) ?_
      have hP : jP165 (c / 36) (zrem (c / 6) 6) S := ⟨jI_n (by omega) w.1, (by simp only [zk_lt, zk_le, jk_m1, zk_1, jk_0, jk_2, jk_3, jk_4, jk_5, jk_6, jk_7, jk_8, jk_10, jk_11, jk_13, jk_14, jk_15, jk_16, jk_18, jk_20, jk_24, jk_25, jk_36, jk_40, jk_50, jk_64, jk_72, jk_100, jk_120, jk_200, jk_201, jk_216, jk_255, jk_256, jk_257, jk_512, jk_1000, jk_2048, jk_9999, jk_10000, jk_65521, jk_65536, jk_104729, jk_2147483647, jk_m1, jk_m2, jk_m3, jk_m4, jk_m5, jk_m6, jk_m7, jk_m8, jk_m9, jk_m10, jk_m11, jk_m12, jk_m13, jk_m14]; omega)⟩
      refine zH_call (zs_21_2 i332_174 na_165 ob_0 rfl) (y165 (c / 36) (zrem (c / 6) 6) S hP) ?_
      have f := jv165 (by omega) w h6 (b := zrem (c / 6) 6) (Or.inr hs)
      generalize (B165 (c / 36) (zrem (c / 6) 6) S) = S1 at f ⊢
      generalize (A165 (c / 36) (zrem (c / 6) 6) S) = r at f ⊢
      obtain ⟨w1, k13, k6, k42, h1, h2, h3, _⟩ := f
      refine zH_pre (zr_3_10 i332_175 (zr_1_10 i332_176 (zt_rfl))) ?_
      have hc : ¬ (r < 0) := by rw [zk_lt, jk_0]; omega
      refine zH_pre (zt_cast (zr_18_2 i332_177 (fun _ => zt_rfl) (fun _ => zt_rfl)) (if_neg hc)) ?_
      clear hc
      refine zH_pre (zr_1_10 i332_178 (zr_2_1 i332_179 (zr_0 i332_180 kc_2 (zr_8 i332_181 ar_13 (zx_9_2) kt_2 rfl (zt_rfl))))) ?_
      have hc : ¬ ((S1 13 2) < r) := by rw [k13, jcx2 w.2.1, zk_lt]; omega
      refine zH_pre (zt_cast (zr_19_4 i332_182 (fun _ => zt_rfl) (fun _ => zt_rfl)) (if_neg hc)) ?_
      clear hc
      refine zH_pre (zr_2_0 i332_183 (zr_1_5 i332_184 (zr_0 i332_185 kc_36 (zr_13_3 i332_186 nz_36 (zr_1_5 i332_187 (zr_0 i332_188 kc_6 (zr_13_3 i332_189 nz_6 (zr_0 i332_190 kc_6 (zr_13_4 i332_191 nz_6 (zt_rfl)))))))))) ?_
      have hP : jP165 (c / 36) (zrem (c / 6) 6) S1 := ⟨jI_n (by omega) w1.1, (by simp only [zk_lt, zk_le, jk_m1, zk_1, jk_0, jk_2, jk_3, jk_4, jk_5, jk_6, jk_7, jk_8, jk_10, jk_11, jk_13, jk_14, jk_15, jk_16, jk_18, jk_20, jk_24, jk_25, jk_36, jk_40, jk_50, jk_64, jk_72, jk_100, jk_120, jk_200, jk_201, jk_216, jk_255, jk_256, jk_257, jk_512, jk_1000, jk_2048, jk_9999, jk_10000, jk_65521, jk_65536, jk_104729, jk_2147483647, jk_m1, jk_m2, jk_m3, jk_m4, jk_m5, jk_m6, jk_m7, jk_m8, jk_m9, jk_m10, jk_m11, jk_m12, jk_m13, jk_m14]; omega)⟩
      refine zH_call (zs_21_2 i332_192 na_165 ob_0 rfl) (y165 (c / 36) (zrem (c / 6) 6) S1 hP) ?_
      have f := (show jLaw n (B165 (c / 36) (zrem (c / 6) 6) S1) ∧ (B165 (c / 36) (zrem (c / 6) 6) S1) 13 = S1 13 ∧ (A165 (c / 36) (zrem (c / 6) 6) S1) = 0 from (fun q => ⟨q.1, q.2.1, q.2.2.2.2.2.2.2 (fun i hi e => by rw [k6] at hi; have := h3 i hi e; rw [k42]; unfold jHi jLo at *; rw [if_neg hsn, if_neg hsn] at this; rw [if_neg hsn, if_neg hsn]; omega)⟩) (jv165 (by omega) w1 h6 (b := zrem (c / 6) 6) (Or.inr hs)))
      generalize (B165 (c / 36) (zrem (c / 6) 6) S1) = S2 at f ⊢
      generalize (A165 (c / 36) (zrem (c / 6) 6) S1) = r2 at f ⊢
      obtain ⟨w2, i13, r0⟩ := f
      refine zH_pre (zr_2_1 i332_193 (zr_0 i332_194 kc_2 (zr_8 i332_195 ar_13 (zx_9_2) kt_2 rfl (zr_1_10 i332_196 (zr_13_1 i332_197 (zt_rfl)))))) ?_
      have hc : ¬ (((S2 13 2) - r) < r2) := by rw [r0, i13, k13, jcx2 w.2.1, zk_lt, jk_0, zk_tsub (by have := (rLea_0 (jI_Lea w.1)).2; omega) (by have := (rLea_0 (jI_Lea w.1)).2; omega)]; omega
      refine zH_pre (zt_cast (zr_19_4 i332_198 (fun _ => zt_rfl) (fun _ => zt_rfl)) (if_neg hc)) ?_
      clear hc
      refine zH_pre (zr_0 i332_199 kc_1 (zr_17 i332_200 (zr_3_9 i332_202 (zr_1_9 i332_203 (zt_rfl))))) ?_
      exact zH_ret (zr_26 i332_204 zo_1) ⟨rfl, w2⟩
  · refine zH_pre (zt_cast (zr_18_1 i332_156 (fun _ => zt_rfl) (fun _ => zt_rfl)) (if_neg h7)) ?_
    refine zH_pre (zr_1_9 i332_203 (zt_rfl)) ?_
    exact zH_ret (zr_26 i332_204 zo_1) ⟨rfl, w⟩
set_option maxRecDepth 100000 in
theorem q332b {L : Nat} (a b c d h : Int32) (u8 : Option zV) {S : zS} {n : Nat} (w : jLaw n S) (hc : zx 216 c) (hd : 0 ≤ d.toInt) (hh : 1 ≤ h.toInt ∧ h.toInt ≤ 50) (hn : n < 489) : zH L 332 (91, [some (.inr (.inr 0)), some (.inr (.inr 13)), some (.inr (.inr 81)), some (.inl a), some (.inl b), some (.inl c), some (.inl d), some (.inl h), u8, some (.inl 1), none, none, none], [], S) (jQ (fun S' => jLaw n S')) := by
  refine zH_pre (zr_2_1 i332_91 (zr_0 i332_92 kc_2 (zr_8 i332_93 ar_13 (zx_9_2) kt_2 rfl (zt_rfl)))) ?_
  by_cases h2 : ((S 13 2) ≤ 0)
  · refine zH_pre (zt_cast (zr_18_5 i332_94 (fun _ => zt_rfl) (fun _ => zt_rfl)) (if_pos h2)) ?_
    exact q332c a b c d h u8 none none none w hc hd hh hn
  · refine zH_pre (zt_cast (zr_18_5 i332_94 (fun _ => zt_rfl) (fun _ => zt_rfl)) (if_neg h2)) ?_
    have hL := rLea_0 (jI_Lea w.1)
    have k2 := jcx2 w.2.1
    have hne : ¬ S 13 2 = 0 := fun e => h2 (by rw [e]; decide)
    have hpos : 0 < (S 13 2).toInt := by rw [zk_le, jk_0] at h2; omega
    have ho := jrem (x := d) (y := S 13 2) hd hpos
    rw [k2] at ho
    refine zH_pre (zr_1_9 i332_95 (zt_rfl)) ?_
    skip
    refine zH_pre (zr_18f_0 i332_96 (by decide) zt_rfl) ?_
    have g0 : (¬ ((S 13 2) = 0)) := hne
    refine zH_pre (zr_1_6 i332_97 (zr_2_1 i332_98 (zr_0 i332_99 kc_2 (zr_8 i332_100 ar_13 (zx_9_2) kt_2 rfl (zr_13_4 i332_101 (g0) (zr_3_10 i332_102 (zr_2_0 i332_103 (zr_1_10 i332_104 (zt_rfl))))))))) ?_
    have hP : jP166 (zrem d (S 13 2)) S := ⟨jI_n (by omega) w.1, (by rw [k2]; exact jdem ho.1 ho.2)⟩
    refine zH_call (zs_21_1 i332_105 na_166 ob_0 rfl) (y166 (zrem d (S 13 2)) S hP) ?_
    have f := (show (A166 (zrem d (S 13 2)) S) = S 46 (zrem d (S 13 2)).toNatClampNeg from rfl)
    generalize (A166 (zrem d (S 13 2)) S) = st at f ⊢
    have hst := f
    have ho2 : 0 ≤ (zrem d (S 13 2)).toInt ∧ (zrem d (S 13 2)).toInt < (S 6 0).toInt := by rw [k2]; exact ho
    refine zH_pre (zr_3_11 i332_106 (zr_2_0 i332_107 (zr_1_10 i332_108 (zr_1_7 i332_109 (zt_rfl))))) ?_
    have hP : jP164 (zrem d (S 13 2)) h S := ⟨jI_n (by omega) w.1, jdem ho2.1 ho2.2, (by simp only [zk_lt, zk_le, jk_m1, zk_1, jk_0, jk_2, jk_3, jk_4, jk_5, jk_6, jk_7, jk_8, jk_10, jk_11, jk_13, jk_14, jk_15, jk_16, jk_18, jk_20, jk_24, jk_25, jk_36, jk_40, jk_50, jk_64, jk_72, jk_100, jk_120, jk_200, jk_201, jk_216, jk_255, jk_256, jk_257, jk_512, jk_1000, jk_2048, jk_9999, jk_10000, jk_65521, jk_65536, jk_104729, jk_2147483647, jk_m1, jk_m2, jk_m3, jk_m4, jk_m5, jk_m6, jk_m7, jk_m8, jk_m9, jk_m10, jk_m11, jk_m12, jk_m13, jk_m14]; omega)⟩
    refine zH_call (zs_21_2 i332_110 na_164 ob_0 rfl) (y164 (zrem d (S 13 2)) h S hP) ?_
    have f := jv164 (by omega) w ho2 hh
    generalize (B164 (zrem d (S 13 2)) h S) = S1 at f ⊢
    generalize (A164 (zrem d (S 13 2)) h S) = en at f ⊢
    obtain ⟨w1, k13, k6, k0, z⟩ := f
    have k8 : S1 13 8 = S 1 6 := by rw [k13]; exact jcx8 w.2.1
    refine zH_pre (zr_3_12 i332_111 (zr_2_1 i332_112 (zr_0 i332_113 kc_8 (zr_8 i332_114 ar_13 (zx_9_8) kt_8 rfl (zt_rfl))))) ?_
    by_cases h8 : ((S1 13 8) = 0)
    · refine zH_pre (zt_cast (zr_18_1 i332_115 (fun _ => zt_rfl) (fun _ => zt_rfl)) (if_pos h8)) ?_
      refine zH_pre (zr_1_12 i332_116 (zr_0 i332_117 kc_m2 (zt_rfl))) ?_
      have hc : (en = (-2)) := (z.resolve_right (fun e => e.elim (fun e => e.1 (k8.symm.trans h8)) (fun e => e.1 (k8.symm.trans h8)))).2
      refine zH_pre (zt_cast (zr_19_1 i332_118 (fun _ => zt_rfl) (fun _ => zt_rfl)) (if_pos hc)) ?_
      clear hc
      refine zH_pre (zr_0 i332_119 kc_1 (zr_17 i332_120 (zr_3_9 i332_152 (zt_rfl)))) ?_
      exact q332c a b c d h u8 _ _ _ w1 hc hd hh hn
    · refine zH_pre (zt_cast (zr_18_1 i332_115 (fun _ => zt_rfl) (fun _ => zt_rfl)) (if_neg h8)) ?_
      have z1 := z.resolve_left (fun e => h8 (k8.trans e.1))
      have k0b : S1 13 0 = S 0 11 := by rw [k13]; exact jcx0 w.2.1
      have hh0 := rKey_0 (jI_Key w.1)
      unfold zn at hh0
      have e0 : ((S 0 11) + h).toInt = (S 0 11).toInt + h.toInt := by rw [zk_tadd (by omega) (by omega)]
      refine zH_pre (zr_1_11 i332_123 (zt_rfl)) ?_
      by_cases hs0 : (st = 0)
      · refine zH_pre (zt_cast (zr_18_1 i332_124 (fun _ => zt_rfl) (fun _ => zt_rfl)) (if_pos hs0)) ?_
        obtain ⟨_, _, y3, y4, y5⟩ := z1.resolve_left (fun e => e.2.1 (hst.symm.trans hs0))
        refine zH_pre (zr_1_12 i332_125 (zr_2_1 i332_126 (zr_0 i332_127 kc_0 (zr_8 i332_128 ar_13 (zx_9_0) kt_0 rfl (zt_rfl))))) ?_
        have hc : ¬ (en ≤ (S1 13 0)) := by rw [k0b, zk_le]; omega
        refine zH_pre (zt_cast (zr_19_5 i332_129 (fun _ => zt_rfl) (fun _ => zt_rfl)) (if_neg hc)) ?_
        clear hc
        refine zH_pre (zr_1_12 i332_130 (zr_2_1 i332_131 (zr_0 i332_132 kc_0 (zr_8 i332_133 ar_13 (zx_9_0) kt_0 rfl (zr_1_7 i332_134 (zr_13_0 i332_135 (zt_rfl))))))) ?_
        have hc : ¬ (((S1 13 0) + h) < en) := by rw [k0b, zk_lt, e0]; omega
        refine zH_pre (zt_cast (zr_19_4 i332_136 (fun _ => zt_rfl) (fun _ => zt_rfl)) (if_neg hc)) ?_
        clear hc
        refine zH_pre (zr_2_0 i332_137 (zr_1_10 i332_138 (zt_rfl))) ?_
        have hP : jP167 (zrem d (S 13 2)) S1 := ⟨jI_n (by omega) w1.1, (by rw [k6]; exact jdem ho2.1 ho2.2)⟩
        refine zH_call (zs_21_1 i332_139 na_167 ob_0 rfl) (y167 (zrem d (S 13 2)) S1 hP) ?_
        have f := (show (A167 (zrem d (S 13 2)) S1) = en from y5)
        generalize (A167 (zrem d (S 13 2)) S1) = e2 at f ⊢
        refine zH_pre (zr_1_12 i332_140 (zt_rfl)) ?_
        have hc : (e2 = en) := f
        refine zH_pre (zt_cast (zr_19_1 i332_141 (fun _ => zt_rfl) (fun _ => zt_rfl)) (if_pos hc)) ?_
        clear hc
        refine zH_pre (zr_0 i332_142 kc_1 (zr_17 i332_143 (zr_3_9 i332_152 (zt_rfl)))) ?_
        exact q332c a b c d h u8 _ _ _ w1 hc hd hh hn
      · refine zH_pre (zt_cast (zr_18_1 i332_124 (fun _ => zt_rfl) (fun _ => zt_rfl)) (if_neg hs0)) ?_
        refine zH_pre (zr_1_12 i332_146 (zr_0 i332_147 kc_m7 (zt_rfl))) ?_
        have hc : (en = (-7)) := (z1.resolve_right (fun e => hs0 (hst.trans e.2.1))).2.2
        refine zH_pre (zt_cast (zr_19_1 i332_148 (fun _ => zt_rfl) (fun _ => zt_rfl)) (if_pos hc)) ?_
        clear hc
        refine zH_pre (zr_0 i332_149 kc_1 (zr_17 i332_150 (zr_3_9 i332_152 (zt_rfl)))) ?_
        exact q332c a b c d h u8 _ _ _ w1 hc hd hh hn
set_option maxRecDepth 100000 in
theorem q332 {L : Nat} (a b c d : Int32) {S : zS} {n : Nat} (hn : n < 480) (w : jLaw n S) (ha : zn 39 a) (hb : 0 ≤ b.toInt ∧ b.toInt < 4) (hc : zx 216 c) (hd : 0 ≤ d.toInt) : ∃ S', zf L 332 [.inr (.inr 0), .inr (.inr 13), .inr (.inr 81), .inl a, .inl b, .inl c, .inl d] S (.inl (some (.inl 1)), S', 0) ∧ jLaw (n + 1) S' := by
  refine zH_f (en_332 _ _ _ _ _ _ _) ?_
  have hx := zx_iff.mp hc
  have hE := jE_f w hc
  have hL := rLea_0 (jI_Lea w.1)
  have hL1 := jk_p _ hL (by decide)
  have hr1 := jrem (x := d) (y := 50) hd (by decide)
  rw [jk_50] at hr1
  have hh : 1 ≤ (1 + (zrem d 50)).toInt ∧ (1 + (zrem d 50)).toInt ≤ 50 := by rw [jp1 hr1 (by decide)]; omega
  have e101 : (101 - (1 + (zrem d 50))).toInt = 101 - (1 + (zrem d 50)).toInt := by rw [zk_tsub (by rw [jk_101]; omega) (by rw [jk_101]; omega), jk_101]
  have hne : ¬ (101 - (1 + (zrem d 50))) = 0 := fun e => by have e9 := congrArg Int32.toInt e; rw [e101, jk_0] at e9; omega
  have hr2 := jrem (x := d / 64) (y := 101 - (1 + (zrem d 50))) (jdv hd (by decide)).1 (by rw [e101]; omega)
  rw [e101] at hr2
  have hq : (1 + (zrem d 50)).toInt ≤ ((1 + (zrem d 50)) + (zrem (d / 64) (101 - (1 + (zrem d 50))))).toInt ∧ ((1 + (zrem d 50)) + (zrem (d / 64) (101 - (1 + (zrem d 50))))).toInt ≤ 100 := by generalize 1 + (zrem d 50) = p at *; rw [zk_tadd (by omega) (by omega)]; omega
  have g0 : (¬ ((101 - (1 + (zrem d 50))) = 0)) := hne
  refine zH_pre (zr_0 i332_0 kc_1 (zr_1_6 i332_1 (zr_0 i332_2 kc_50 (zr_13_4 i332_3 nz_50 (zr_13_0 i332_4 (zr_3_7 i332_5 (zr_2_0 i332_6 (zr_1_3 i332_7 (zr_1_4 i332_8 (zr_1_5 i332_9 (zr_1_7 i332_10 (zr_1_7 i332_11 (zr_1_6 i332_12 (zr_0 i332_13 kc_64 (zr_13_3 i332_14 nz_64 (zr_0 i332_15 kc_101 (zr_1_7 i332_16 (zr_13_1 i332_17 (zr_13_4 i332_18 (g0) (zr_13_0 i332_19 (zt_rfl))))))))))))))))))))) ?_
  skip
  have hP : jP163 a b c (1 + (zrem d 50)) ((1 + (zrem d 50)) + (zrem (d / 64) (101 - (1 + (zrem d 50))))) S := ⟨jI_n (by omega) w.1, ha, (by simp only [zk_lt, zk_le, jk_m1, zk_1, jk_0, jk_2, jk_3, jk_4, jk_5, jk_6, jk_7, jk_8, jk_10, jk_11, jk_13, jk_14, jk_15, jk_16, jk_18, jk_20, jk_24, jk_25, jk_36, jk_40, jk_50, jk_64, jk_72, jk_100, jk_120, jk_200, jk_201, jk_216, jk_255, jk_256, jk_257, jk_512, jk_1000, jk_2048, jk_9999, jk_10000, jk_65521, jk_65536, jk_104729, jk_2147483647, jk_m1, jk_m2, jk_m3, jk_m4, jk_m5, jk_m6, jk_m7, jk_m8, jk_m9, jk_m10, jk_m11, jk_m12, jk_m13, jk_m14]; omega), (by simp only [zk_lt, zk_le, jk_m1, zk_1, jk_0, jk_2, jk_3, jk_4, jk_5, jk_6, jk_7, jk_8, jk_10, jk_11, jk_13, jk_14, jk_15, jk_16, jk_18, jk_20, jk_24, jk_25, jk_36, jk_40, jk_50, jk_64, jk_72, jk_100, jk_120, jk_200, jk_201, jk_216, jk_255, jk_256, jk_257, jk_512, jk_1000, jk_2048, jk_9999, jk_10000, jk_65521, jk_65536, jk_104729, jk_2147483647, jk_m1, jk_m2, jk_m3, jk_m4, jk_m5, jk_m6, jk_m7, jk_m8, jk_m9, jk_m10, jk_m11, jk_m12, jk_m13, jk_m14]; omega)⟩
  refine zH_call (zs_21_5 i332_20 na_163 ob_0 rfl) (y163 a b c (1 + (zrem d 50)) ((1 + (zrem d 50)) + (zrem (d / 64) (101 - (1 + (zrem d 50))))) S hP) ?_
  have f := jv163 (b := b) (by omega) w ha hc hh hq
  generalize (B163 a b c (1 + (zrem d 50)) ((1 + (zrem d 50)) + (zrem (d / 64) (101 - (1 + (zrem d 50))))) S) = S1 at f ⊢
  generalize (A163 a b c (1 + (zrem d 50)) ((1 + (zrem d 50)) + (zrem (d / 64) (101 - (1 + (zrem d 50))))) S) = r at f ⊢
  obtain ⟨i1, c1, e1, k2, k6, k11, k81, k5, z⟩ := f
  refine zH_pre (zr_3_8 i332_21 (zr_0 i332_22 kc_1 (zr_3_9 i332_23 (zr_1_8 i332_24 (zt_rfl))))) ?_
  by_cases hr : (r < 0)
  · refine zH_pre (zt_cast (zr_18_2 i332_25 (fun _ => zt_rfl) (fun _ => zt_rfl)) (if_pos hr)) ?_
    obtain ⟨z1, z2⟩ := z.resolve_right (fun e => by rw [zk_lt, jk_0, e.2.2.1] at hr; have := hL.1; omega)
    have w2 : jLaw (n + 1) S1 := ⟨i1, (by have e := jCx_up2 (v := S1 13 2) c1 (by rw [k2, z2]) [] jmem1; rwa [jup_id] at e), e1⟩
    refine zH_pre (zr_1_8 i332_81 (zr_0 i332_82 kc_m1 (zt_rfl))) ?_
    have hc : ¬ ((-1) ≤ r) := jne1 z1
    refine zH_pre (zt_cast (zr_19_3 i332_83 (fun _ => zt_rfl) (fun _ => zt_rfl)) (if_neg hc)) ?_
    clear hc
    refine zH_pre (zr_1_8 i332_84 (zr_0 i332_85 kc_m14 (zt_rfl))) ?_
    have hc : ¬ (r ≤ (-14)) := jne14 z1
    refine zH_pre (zt_cast (zr_19_5 i332_86 (fun _ => zt_rfl) (fun _ => zt_rfl)) (if_neg hc)) ?_
    clear hc
    refine zH_pre (zr_0 i332_87 kc_1 (zr_17 i332_88 (zr_3_9 i332_90 (zt_rfl)))) ?_
    exact q332b a b c d _ _ w2 hc hd hh (by omega)
  · refine zH_pre (zt_cast (zr_18_2 i332_25 (fun _ => zt_rfl) (fun _ => zt_rfl)) (if_neg hr)) ?_
    obtain ⟨g1, g2, g3, g4, g5, g6, g7⟩ := z.resolve_left (fun e => by rw [zk_lt, jk_0] at hr; have := e.1.2; omega)
    have h16 : S 1 6 = 1 := (rSea_0 (jI_Sea w.1)).resolve_left g1
    have hnL := zk_nat hL.1
    skip
    refine zH_pre (zr_2_1 i332_26 (zr_0 i332_27 kc_2 (zr_15 i332_28 (zr_8 i332_29 ar_13 (zx_9_2) kt_2 rfl (zr_0 i332_30 kc_1 (zr_13_0 i332_31 (zr_10 i332_32 ar_13 (zx_9_2) kt_2 (zr_2_1 i332_33 (zr_0 i332_34 kc_8 (zr_8 i332_35 ar_13 (zx_9_8) kt_8 (zupf rfl) (zr_0 i332_36 kc_1 (zt_rfl)))))))))))) ?_
    have f := (show jLaw (n + 1) (z_up S1 13 2 ((S1 13 2) + 1)) ∧ (z_up S1 13 2 ((S1 13 2) + 1)) 13 2 = S1 13 2 + 1 ∧ (z_up S1 13 2 ((S1 13 2) + 1)) 6 0 = S1 6 0 ∧ (z_up S1 13 2 ((S1 13 2) + 1)) 44 = S1 44 ∧ (z_up S1 13 2 ((S1 13 2) + 1)) 46 = S1 46 ∧ (z_up S1 13 2 ((S1 13 2) + 1)) 40 = S1 40 ∧ (z_up S1 13 2 ((S1 13 2) + 1)) 0 11 = S 0 11 ∧ (z_up S1 13 2 ((S1 13 2) + 1)) 5 = S 5 ∧ (z_up S1 13 2 ((S1 13 2) + 1)) 81 = S1 81 from ⟨⟨jI_13 i1 2 _ rfl, jCx_up2 c1 (by rw [k2, g4]) [] jmem1, jE_13 e1 2 _⟩, zup_s _ _ _ _, zupci rfl, zupc rfl, zupc rfl, zupc rfl, (zupci rfl).trans k11, (zupc rfl).trans k5, zupc rfl⟩)
    generalize (z_up S1 13 2 ((S1 13 2) + 1)) = S2 at f ⊢
    obtain ⟨w2, m2, m6, m44, m46, m40, m11, m5, m81⟩ := f
    have hlt : 0 ≤ r.toInt ∧ r.toInt < (S2 6 0).toInt := by rw [g3, m6, g4, hL1]; exact ⟨hL.1, by omega⟩
    have k0 := jcx0 w2.2.1
    have hh0 := rKey_0 (jI_Key w.1)
    unfold zn at hh0
    have e0 : ((S 0 11) + (1 + (zrem d 50))).toInt = (S 0 11).toInt + (1 + (zrem d 50)).toInt := by rw [zk_tadd (by omega) (by omega)]
    have hE2 := (jI_End w2.1) r.toNatClampNeg (by have := zk_nat hlt.1; have := zk_nat (rLea_0 (jI_Lea w2.1)).1; omega)
    have hc : ((S1 13 8) = 1) := by rw [jcxk8 c1, k6]; exact h16
    refine zH_pre (zt_cast (zr_19_1 i332_37 (fun _ => zt_rfl) (fun _ => zt_rfl)) (if_pos hc)) ?_
    clear hc
    have g0 : zx 12 (c / 36) := by have := zx_iff.mp (jdiv36 hc); rw [zx_iff]; omega
    refine zH_pre (zr_2_2 i332_38 (zr_1_5 i332_39 (zr_0 i332_40 kc_36 (zr_13_3 i332_41 nz_36 (zr_8 i332_42 ar_81 (g0) rfl rfl (zr_0 i332_43 kc_2 (zt_rfl))))))) ?_
    have hc : ((S2 81 (c / 36).toNatClampNeg) = 2) := by rw [m81, k81, hE, g2]; rfl
    refine zH_pre (zt_cast (zr_19_1 i332_44 (fun _ => zt_rfl) (fun _ => zt_rfl)) (if_pos hc)) ?_
    clear hc
    refine zH_pre (zr_1_8 i332_45 (zr_2_1 i332_46 (zr_0 i332_47 kc_2 (zr_8 i332_48 ar_13 (zx_9_2) kt_2 rfl (zr_0 i332_49 kc_1 (zr_13_1 i332_50 (zt_rfl))))))) ?_
    have hc : (r = ((S2 13 2) - 1)) := by rw [m2, k2, jk_sub1]; exact g3
    refine zH_pre (zt_cast (zr_19_1 i332_51 (fun _ => zt_rfl) (fun _ => zt_rfl)) (if_pos hc)) ?_
    clear hc
    refine zH_pre (zr_2_0 i332_52 (zr_1_8 i332_53 (zt_rfl))) ?_
    have hP : jP167 r S2 := ⟨jI_n (by omega) w2.1, jdem hlt.1 hlt.2⟩
    refine zH_call (zs_21_1 i332_54 na_167 ob_0 rfl) (y167 r S2 hP) ?_
    have f := (show (A167 r S2) = S1 44 r.toNatClampNeg from by unfold A167; rw [m44])
    generalize (A167 r S2) = en at f ⊢
    have hen := f
    refine zH_pre (zr_2_1 i332_55 (zr_0 i332_56 kc_0 (zr_8 i332_57 ar_13 (zx_9_0) kt_0 rfl (zr_1_7 i332_58 (zr_13_0 i332_59 (zt_rfl)))))) ?_
    have hc : ¬ (((S2 13 0) + (1 + (zrem d 50))) < en) := by rw [k0, m11, zk_lt, e0, hen, g3]; omega
    refine zH_pre (zt_cast (zr_19_4 i332_60 (fun _ => zt_rfl) (fun _ => zt_rfl)) (if_neg hc)) ?_
    clear hc
    refine zH_pre (zr_2_0 i332_61 (zr_1_8 i332_62 (zt_rfl))) ?_
    have hP : jP166 r S2 := ⟨jI_n (by omega) w2.1, jdem hlt.1 hlt.2⟩
    refine zH_call (zs_21_1 i332_63 na_166 ob_0 rfl) (y166 r S2 hP) ?_
    have f := (show (A166 r S2) = S2 46 r.toNatClampNeg from rfl)
    generalize (A166 r S2) = st at f ⊢
    have hst := f
    by_cases hs : (0 < st)
    · refine zH_pre (zt_cast (zr_18_4 i332_64 (fun _ => zt_rfl) (fun _ => zt_rfl)) (if_pos hs)) ?_
      refine zH_pre (zr_0 i332_76 kc_1 (zr_17 i332_77 (zr_3_9 i332_79 (zr_17 i332_80 (zt_rfl))))) ?_
      exact q332b a b c d _ _ w2 hc hd hh (by omega)
    · refine zH_pre (zt_cast (zr_18_4 i332_64 (fun _ => zt_rfl) (fun _ => zt_rfl)) (if_neg hs)) ?_
      have hs0 : S2 46 r.toNatClampNeg = 0 := by
        have := ((rLea_3 (jI_Lea w2.1)) r.toNatClampNeg).1
        rw [zk_lt, jk_0, hst] at hs
        exact zk_eq.mpr (by rw [jk_0]; omega)
      have hal : S2 40 a.toNatClampNeg = 0 := by rw [m40]; exact g6 (by rw [← m46, ← g3]; exact hs0)
      have hat : 0 ≤ a.toInt ∧ a.toInt < (S2 5 0).toInt := ⟨ha.1, by rw [m5]; exact g7⟩
      refine zH_pre (zr_2_0 i332_65 (zr_1_3 i332_66 (zt_rfl))) ?_
      have hP : jP156 a S2 := ⟨jI_n (by omega) w2.1, jdem hat.1 hat.2⟩
      refine zH_call (zs_21_1 i332_67 na_156 ob_0 rfl) (y156 a S2 hP) ?_
      have f := (show (A156 a S2) = 1 from by unfold A156; rw [hal]; exact (zb_1 _).mpr rfl)
      generalize (A156 a S2) = al at f ⊢
      have hc : ¬ (al = 0) := by rw [f]; decide
      refine zH_pre (zt_cast (zr_18_0 i332_68 (fun _ => zt_rfl) (fun _ => zt_rfl)) (if_neg hc)) ?_
      clear hc
      refine zH_pre (zr_2_0 i332_69 (zr_1_8 i332_70 (zt_rfl))) ?_
      have hP : jP167 r S2 := ⟨jI_n (by omega) w2.1, jdem hlt.1 hlt.2⟩
      refine zH_call (zs_21_1 i332_71 na_167 ob_0 rfl) (y167 r S2 hP) ?_
      have f := (show (A167 r S2) = S2 44 r.toNatClampNeg from rfl)
      generalize (A167 r S2) = en2 at f ⊢
      have hen2 := f
      refine zH_pre (zr_2_1 i332_72 (zr_0 i332_73 kc_0 (zr_8 i332_74 ar_13 (zx_9_0) kt_0 rfl (zt_rfl)))) ?_
      have hc : ¬ (en2 ≤ (S2 13 0)) := by rw [hen2, k0, zk_le]; have := (hE2.1 hs0).1; omega
      refine zH_pre (zt_cast (zr_19_5 i332_75 (fun _ => zt_rfl) (fun _ => zt_rfl)) (if_neg hc)) ?_
      clear hc
      refine zH_pre (zr_0 i332_76 kc_1 (zr_17 i332_77 (zr_3_9 i332_79 (zr_17 i332_80 (zt_rfl))))) ?_
      exact q332b a b c d _ _ w2 hc hd hh (by omega)
