/-! the law: 25.07.values (wip/p57/gen) -/

/-- a version's place -/
def jsl (c x : Int32) : Int32 := (c * 4) + F323 x 4 jS0
theorem jsl_n {c x : Int32} (hc : zx 216 c) : zx 864 (jsl c x) := zx_slot hc (zfm_zn _ _)
theorem jl107 {S : zS} {c x : Int32} (hc : zx 216 c) (h51 : S 51 c.toNatClampNeg = x) (hx : 1 ≤ x.toInt ∧ x.toInt ≤ 1000) : F107 c 0 S = jsl c x ∧ F107 c x S = jsl c x ∧ F107 c (x + 1) S = -1 ∧ ¬ jsl c x = -1 := by
  have h4 : (x - 4).toInt = x.toInt - 4 := by rw [zk_tsub (by rw [jk_4]; omega) (by rw [jk_4]; omega), jk_4]
  have h1 : (x + 1).toInt = x.toInt + 1 := by rw [zk_tadd (by rw [zk_1]; omega) (by rw [zk_1]; omega), zk_1]
  have hx0 : ¬ x = 0 := fun e => by rw [e, jk_0] at hx; omega
  have hx1 : ¬ x + 1 = 0 := fun e => by have e9 := congrArg Int32.toInt e; rw [h1, jk_0] at e9; omega
  unfold F107
  rw [h51, if_pos rfl, if_neg hx0, if_neg hx1]
  refine ⟨?_, ?_, ?_, fun e => ?_⟩
  · rw [if_pos (by simp only [zk_lt, zk_le, zk_1, h4]; omega)]; rfl
  · rw [if_pos (by simp only [zk_lt, zk_le, zk_1, h4]; omega)]; rfl
  · rw [if_neg (by simp only [zk_lt, zk_le, zk_1, h4, h1]; omega)]
  · have := zx_iff.mp (jsl_n (x := x) hc)
    rw [e] at this; exact absurd this.1 (by decide)
/-- what stands at a path's last version -/
def jLast (c x st : Int32) (S : zS) : Prop := S 51 c.toNatClampNeg = x ∧ S 54 (jsl c x).toNatClampNeg = st ∧ (S 59 c.toNatClampNeg).toInt < x.toInt
theorem jLast_k {l fl : List Nat} {c x st : Int32} {S S' : zS} (h1 : zmem l 51 = false) (h2 : zmem l 54 = false) (h3 : zmem l 59 = false) (k : zkp l fl S S') (h : jLast c x st S) : jLast c x st S' := by
  unfold jLast at *
  rw [k.1 51 h1, k.1 54 h2, k.1 59 h3]; exact h
theorem jv158 {n : Nat} {S : zS} (hn : n < 490) (w : jLaw n S) {a b c : Int32} (d : Int32) (ha : zn 39 a) (hc : zx 216 c) : zkp [10, 19, 37, 40, 44, 46, 47, 49, 66, 67, 68, 69, 80] [10004] S (B158 a b c d S) ∧ jI (n + 1) (B158 a b c d S) ∧ jCx [4] (B158 a b c d S) ∧ jE (B158 a b c d S) ∧ (jRef (A158 a b c d S) ∨ (zn 9999 (A158 a b c d S) ∧ A158 a b c d S = F110 c d (S 2 3) S)) ∧ (S 1 6 = 0 → A158 a b c d S = -2) := by
  obtain ⟨h1, h2⟩ := jq158 (by omega) w.1 (b := b) d ha.1 hc
  have hp := p_B158 a b c d S
  exact ⟨zkp_tr zkp_S hp rfl rfl, h1, jCx_k rfl hp w.2.1, jE_k rfl rfl hp w.2.2, h2⟩
theorem jv159 {n : Nat} {S : zS} (hn : n < 490) (w : jLaw n S) {a b c d : Int32} (e : Int32) (ha : zn 39 a) (hc : zx 216 c) (hd : zn 9999 d) : jLaw (n + 1) (B159 a b c d e S) ∧ B159 a b c d e S 13 = S 13 ∧ B159 a b c d e S 81 = S 81 ∧ B159 a b c d e S 59 = S 59 ∧ B159 a b c d e S 1 6 = S 1 6 ∧ (S 1 6 = 0 → A159 a b c d e S = -2) ∧ ((jRef (A159 a b c d e S) ∧ zkp [19, 37, 40, 44, 46, 47, 49, 80] [] S (B159 a b c d e S)) ∨ (¬ S 1 6 = 0 ∧ (e = -1 ∨ e = S 51 c.toNatClampNeg) ∧ S 16 (c / 36).toNatClampNeg = 0 ∧ (1 ≤ (A159 a b c d e S).toInt ∧ (A159 a b c d e S).toInt ≤ 1000) ∧ jLast c (A159 a b c d e S) 0 (B159 a b c d e S) ∧ B159 a b c d e S 52 (jsl c (A159 a b c d e S)).toNatClampNeg = d ∧ B159 a b c d e S 53 (jsl c (A159 a b c d e S)).toNatClampNeg = B159 a b c d e S 2 0)) := by
  obtain ⟨h1, h2, h3⟩ := jq159 (by omega) w.1 (b := b) e ha.1 hc hd
  have hp := p_B159 a b c d e S
  refine ⟨⟨h1, jCx_k rfl hp w.2.1, jE_k rfl rfl hp w.2.2⟩, hp.1 13 rfl, hp.1 81 rfl, hp.1 59 rfl, congrFun (hp.1 1 rfl) 6, h2, h3.imp id (fun q => ?_)⟩
  obtain ⟨q1, q2, q3, q4, q5, q6, q7, q8⟩ := q
  have hx := zx_iff.mp hc
  have hnc := zk_nat hx.1
  have h51 := (rSto_0 (jI_Sto w.1)) c.toNatClampNeg (by omega)
  have e51 := jk_p _ h51 (by omega)
  have hf := ((rFar_4 (jI_Far w.1)) c.toNatClampNeg (by omega)).2
  rw [q4]
  refine ⟨q1, q2, q3, ⟨by rw [e51]; have := h51.1; omega, by rw [e51]; have := h51.2; omega⟩, ⟨q5, q6, ?_⟩, q7, q8⟩
  rw [hp.1 59 rfl, e51]; omega
theorem jv160 {n : Nat} {S : zS} (hn : n < 490) (w : jLaw n S) {a b c : Int32} (d : Int32) {e : Int32} (ha : zn 39 a) (hc : zx 216 c) (he : zn 2 e) : jLaw (n + 1) (B160 a b c d e S) ∧ B160 a b c d e S 59 = S 59 ∧ ((jRef (A160 a b c d e S) ∧ zkp [19, 37, 40, 44, 46, 47, 49, 80] [] S (B160 a b c d e S)) ∨ (¬ F107 c d S = -1 ∧ ¬ S 54 (F107 c d S).toNatClampNeg = 2 ∧ A160 a b c d e S = S 54 (F107 c d S).toNatClampNeg ∧ B160 a b c d e S 54 = upd (S 54) (F107 c d S).toNatClampNeg e ∧ B160 a b c d e S 51 = S 51 ∧ B160 a b c d e S 53 = S 53)) := by
  obtain ⟨h1, h2⟩ := jq160 (by omega) w.1 (b := b) d ha.1 hc he
  have hp := p_B160 a b c d e S
  exact ⟨⟨h1, jCx_k rfl hp w.2.1, jE_k rfl rfl hp w.2.2⟩, hp.1 59 rfl, h2⟩
/-- the far site has not seen it yet -/
theorem jv183 {S : zS} {a c x st : Int32} (hx : 1 ≤ x.toInt) (h : jLast c x st S) : jRef (A183 a c x S) := by
  have h7 : F107_9 c x S = -1 := by
    unfold F107_9
    have hx0 : ¬ x = 0 := fun e => by rw [e, jk_0] at hx; omega
    simp only [if_neg hx0]
    exact if_neg (fun e => e.2.1 (zk_lt.mpr h.2.2))
  unfold A183
  split
  · split
    · split
      · exact jRef_c (by decide)
      · split
        · unfold F110_9; rw [if_pos h7]; exact jRef_c (by decide)
        · exact jRef_c (by decide)
    · exact jRef_c (by decide)
  · exact jRef_c (by decide)
theorem jE_f {n : Nat} {S : zS} (w : jLaw n S) {c : Int32} (hc : zx 216 c) : S 81 (c / 36).toNatClampNeg = S 16 (c / 36).toNatClampNeg + 1 := by
  have := zx_iff.mp (jdiv36 hc)
  have := zk_nat this.1
  exact w.2.2 _ (by omega)
theorem jne1 {r : Int32} (h : jRef r) : ¬ (-1 : Int32) ≤ r := by rw [zk_le, jk_m1]; have := h.2; omega
theorem jne14 {r : Int32} (h : jRef r) : ¬ r ≤ (-14 : Int32) := by rw [zk_le, jk_m14]; have := h.1; omega
theorem jn0 {r : Int32} (h : jRef r) : ¬ (0 : Int32) ≤ r := by rw [zk_le, jk_0]; have := h.2; omega

set_option maxRecDepth 100000 in
theorem q331e {L : Nat} (a b c d x t : Int32) (u7 u8 : Option zV) {S : zS} {n : Nat} (hn : n < 483) (w : jLaw n S) (ha : zn 39 a) (hb : 0 ≤ b.toInt ∧ b.toInt < 4) (hc : zx 216 c) (hd : 0 ≤ d.toInt) (hx : 1 ≤ x.toInt ∧ x.toInt ≤ 1000) (h : jLast c x 0 S) : zH L 331 (143, [some (.inr (.inr 0)), some (.inr (.inr 13)), some (.inr (.inr 81)), some (.inl a), some (.inl b), some (.inl c), some (.inl d), u7, some (.inl x), some (.inl 1), some (.inl t), u8, none], [], S) (jQ (fun S' => jLaw (n + 3) S')) := by
  have hd3 := jdv (x := d) (y := 3) hd (by decide)
  have hst3 := jrem (x := d / 3) (y := 3) hd3.1 (by decide)
  rw [jk_3] at hst3
  have hx2 := zx_iff.mp hc
  have l107 := jl107 hc h.1 hx
  refine zH_pre (zr_2_0 i331_143 (zr_1_3 i331_144 (zr_1_4 i331_145 (zr_1_5 i331_146 (zr_0 i331_147 kc_0 (zr_1_6 i331_148 (zr_0 i331_149 kc_3 (zr_13_3 i331_150 nz_3 (zr_0 i331_151 kc_3 (zr_13_4 i331_152 nz_3 (zt_rfl))))))))))) ?_
  have hP : jP160 a b c 0 (zrem (d / 3) 3) S := ⟨jI_n (by omega) w.1, ha, (by have := zx_iff.mp hc; simp only [zk_lt, zk_le, zk_1, jk_0, jk_2, jk_3, jk_4, jk_5, jk_6, jk_7, jk_8, jk_10, jk_11, jk_13, jk_14, jk_15, jk_16, jk_18, jk_20, jk_24, jk_25, jk_36, jk_40, jk_50, jk_64, jk_72, jk_100, jk_120, jk_200, jk_201, jk_216, jk_255, jk_256, jk_257, jk_512, jk_1000, jk_2048, jk_9999, jk_10000, jk_65521, jk_65536, jk_104729, jk_2147483647, jk_m1, jk_m2, jk_m3, jk_m4, jk_m5, jk_m6, jk_m7, jk_m8, jk_m9, jk_m10, jk_m11, jk_m12, jk_m13, jk_m14]; omega), by simp only [zk_lt, zk_le, zk_1, jk_0, jk_2, jk_3, jk_4, jk_5, jk_6, jk_7, jk_8, jk_10, jk_11, jk_13, jk_14, jk_15, jk_16, jk_18, jk_20, jk_24, jk_25, jk_36, jk_40, jk_50, jk_64, jk_72, jk_100, jk_120, jk_200, jk_201, jk_216, jk_255, jk_256, jk_257, jk_512, jk_1000, jk_2048, jk_9999, jk_10000, jk_65521, jk_65536, jk_104729, jk_2147483647, jk_m1, jk_m2, jk_m3, jk_m4, jk_m5, jk_m6, jk_m7, jk_m8, jk_m9, jk_m10, jk_m11, jk_m12, jk_m13, jk_m14]; omega⟩
  refine zH_call (zs_21_5 i331_153 na_160 ob_0 rfl) (y160 a b c 0 (zrem (d / 3) 3) S hP) ?_
  have f := jv160 (b := b) (by omega) w 0 (e := (zrem (d / 3) 3)) ha hc (by unfold zn; omega)
  generalize (B160 a b c 0 (zrem (d / 3) 3) S) = S1 at f ⊢
  generalize (A160 a b c 0 (zrem (d / 3) 3) S) = r at f ⊢
  obtain ⟨w1, k59, z⟩ := f
  refine zH_pre (zr_3_12 i331_154 (zr_1_12 i331_155 (zt_rfl))) ?_
  by_cases hr : (0 ≤ r)
  · refine zH_pre (zt_cast (zr_18_3 i331_156 (fun _ => zt_rfl) (fun _ => zt_rfl)) (if_pos hr)) ?_
    obtain ⟨_, _, z3, z4, z5, z6⟩ := z.resolve_left (fun e => jn0 e.1 hr)
    rw [l107.1, h.2.1] at z3
    rw [l107.1] at z4
    have h1 : jLast c x (zrem (d / 3) 3) S1 := ⟨by rw [z5]; exact h.1, by rw [z4, upd_r, if_pos rfl], by rw [k59]; exact h.2.2⟩
    refine zH_pre (zr_2_0 i331_166 (zr_1_3 i331_167 (zr_1_4 i331_168 (zr_1_5 i331_169 (zr_1_8 i331_170 (zt_rfl)))))) ?_
    have hP : jP158 a b c x S1 := ⟨jI_n (by omega) w1.1, ha, (by have := zx_iff.mp hc; simp only [zk_lt, zk_le, zk_1, jk_0, jk_2, jk_3, jk_4, jk_5, jk_6, jk_7, jk_8, jk_10, jk_11, jk_13, jk_14, jk_15, jk_16, jk_18, jk_20, jk_24, jk_25, jk_36, jk_40, jk_50, jk_64, jk_72, jk_100, jk_120, jk_200, jk_201, jk_216, jk_255, jk_256, jk_257, jk_512, jk_1000, jk_2048, jk_9999, jk_10000, jk_65521, jk_65536, jk_104729, jk_2147483647, jk_m1, jk_m2, jk_m3, jk_m4, jk_m5, jk_m6, jk_m7, jk_m8, jk_m9, jk_m10, jk_m11, jk_m12, jk_m13, jk_m14]; omega)⟩
    refine zH_call (zs_21_4 i331_171 na_158 ob_0 rfl) (y158 a b c x S1 hP) ?_
    have f := jv158 (b := b) (by omega) w1 x ha hc
    generalize (B158 a b c x S1) = S2 at f ⊢
    generalize (A158 a b c x S1) = t2 at f ⊢
    obtain ⟨k2, i2, c2, e2, v2, _⟩ := f
    refine zH_pre (zr_3_10 i331_172 (zr_2_1 i331_173 (zr_0 i331_174 kc_4 (zr_2_0 i331_175 (zt_rfl))))) ?_
    have hP : jP174  S2 := jI_n (by omega) i2
    refine zH_call (zs_21_0 i331_176 na_174 ob_0 rfl) (y174  S2 hP) ?_
    have f := (show (A174 S2) = S2 10 4 from rfl)
    generalize (A174 S2) = cs at f ⊢
    have hcs := f
    refine zH_pre (zr_10 i331_177 ar_13 (zx_9_4) kt_4 (zr_1_9 i331_178 (zt_rfl))) ?_
    have f := (show jLaw (n + 2) (z_up S2 13 4 cs) ∧ jLast c x (zrem (d / 3) 3) (z_up S2 13 4 cs) from ⟨⟨jI_13 i2 4 _ rfl, jCx_up4 c2 hcs [] jmem1, jE_13 e2 4 _⟩, jLast_k (l := [13]) (fl := [13004]) rfl rfl rfl (zkp_upf zkp_S rfl rfl) (jLast_k rfl rfl rfl k2 h1)⟩)
    generalize (z_up S2 13 4 cs) = S4 at f ⊢
    obtain ⟨w4, h4⟩ := f
    refine zH_pre (zr_18f_0 i331_179 (by decide) zt_rfl) ?_
    refine zH_pre (zr_1_12 i331_180 (zt_rfl)) ?_
    have hc : (r = 0) := z3
    refine zH_pre (zt_cast (zr_18_1 i331_181 (fun _ => zt_rfl) (fun _ => zt_rfl)) (if_pos hc)) ?_
    clear hc
    refine zH_pre (zr_1_10 i331_182 (zr_0 i331_183 kc_m1 (zt_rfl))) ?_
    by_cases ht : (t2 < (-1))
    · refine zH_pre (zt_cast (zr_19_2 i331_184 (fun _ => zt_rfl) (fun _ => zt_rfl)) (if_pos ht)) ?_
      refine zH_pre (zr_2_0 i331_191 (zr_1_5 i331_192 (zr_1_8 i331_193 (zt_rfl)))) ?_
      have hP : jP161 c x S4 := ⟨jI_n (by omega) w4.1, (by have := zx_iff.mp hc; simp only [zk_lt, zk_le, zk_1, jk_0, jk_2, jk_3, jk_4, jk_5, jk_6, jk_7, jk_8, jk_10, jk_11, jk_13, jk_14, jk_15, jk_16, jk_18, jk_20, jk_24, jk_25, jk_36, jk_40, jk_50, jk_64, jk_72, jk_100, jk_120, jk_200, jk_201, jk_216, jk_255, jk_256, jk_257, jk_512, jk_1000, jk_2048, jk_9999, jk_10000, jk_65521, jk_65536, jk_104729, jk_2147483647, jk_m1, jk_m2, jk_m3, jk_m4, jk_m5, jk_m6, jk_m7, jk_m8, jk_m9, jk_m10, jk_m11, jk_m12, jk_m13, jk_m14]; omega)⟩
      refine zH_call (zs_21_2 i331_194 na_161 ob_0 rfl) (y161 c x S4 hP) ?_
      have f := (show (A161 c x S4) = (if (zrem (d / 3) 3) = 2 then (-1 : Int32) else S4 53 (jsl c x).toNatClampNeg) from by unfold A161; rw [(jl107 hc h4.1 hx).2.1, if_neg l107.2.2.2, h4.2.1])
      generalize (A161 c x S4) = kk at f ⊢
      refine zH_pre (zr_0 i331_195 kc_m1 (zt_rfl)) ?_
      by_cases hst0 : (kk = (-1))
      · refine zH_pre (zt_cast (zr_19_1 i331_196 (fun _ => zt_rfl) (fun _ => zt_rfl)) (if_pos hst0)) ?_
        have hst : (zrem (d / 3) 3) = 2 := by
          by_cases h2 : (zrem (d / 3) 3) = 2
          · exact h2
          · rw [if_neg h2] at f
            have := (rSto_2 (jI_Sto w4.1)) (jsl c x).toNatClampNeg
            rw [← f, hst0] at this; exact absurd this (by decide)
        refine zH_pre (zr_0 i331_197 kc_1 (zr_17 i331_198 (zr_1_6 i331_200 (zr_0 i331_201 kc_3 (zr_13_3 i331_202 nz_3 (zr_0 i331_203 kc_3 (zr_13_4 i331_204 nz_3 (zr_0 i331_205 kc_2 (zt_rfl))))))))) ?_
        have hc : ((zrem (d / 3) 3) = 2) := hst
        refine zH_pre (zt_cast (zr_19_1 i331_206 (fun _ => zt_rfl) (fun _ => zt_rfl)) (if_pos hc)) ?_
        clear hc
        refine zH_pre (zr_0 i331_207 kc_1 (zr_17 i331_208 (zt_rfl))) ?_
        refine zH_pre (zr_19f_1 i331_210 (by decide) zt_rfl) ?_
        refine zH_pre (zr_2_0 i331_211 (zr_1_3 i331_212 (zr_1_4 i331_213 (zr_1_5 i331_214 (zr_1_8 i331_215 (zr_0 i331_216 kc_0 (zt_rfl))))))) ?_
        have hP : jP160 a b c x 0 S4 := ⟨jI_n (by omega) w4.1, ha, (by have := zx_iff.mp hc; simp only [zk_lt, zk_le, zk_1, jk_0, jk_2, jk_3, jk_4, jk_5, jk_6, jk_7, jk_8, jk_10, jk_11, jk_13, jk_14, jk_15, jk_16, jk_18, jk_20, jk_24, jk_25, jk_36, jk_40, jk_50, jk_64, jk_72, jk_100, jk_120, jk_200, jk_201, jk_216, jk_255, jk_256, jk_257, jk_512, jk_1000, jk_2048, jk_9999, jk_10000, jk_65521, jk_65536, jk_104729, jk_2147483647, jk_m1, jk_m2, jk_m3, jk_m4, jk_m5, jk_m6, jk_m7, jk_m8, jk_m9, jk_m10, jk_m11, jk_m12, jk_m13, jk_m14]; omega), (by simp only [zk_lt, zk_le, zk_1, jk_0, jk_2, jk_3, jk_4, jk_5, jk_6, jk_7, jk_8, jk_10, jk_11, jk_13, jk_14, jk_15, jk_16, jk_18, jk_20, jk_24, jk_25, jk_36, jk_40, jk_50, jk_64, jk_72, jk_100, jk_120, jk_200, jk_201, jk_216, jk_255, jk_256, jk_257, jk_512, jk_1000, jk_2048, jk_9999, jk_10000, jk_65521, jk_65536, jk_104729, jk_2147483647, jk_m1, jk_m2, jk_m3, jk_m4, jk_m5, jk_m6, jk_m7, jk_m8, jk_m9, jk_m10, jk_m11, jk_m12, jk_m13, jk_m14]; omega)⟩
        refine zH_call (zs_21_5 i331_217 na_160 ob_0 rfl) (y160 a b c x 0 S4 hP) ?_
        have f := jv160 (b := b) (by omega) w4 x (e := 0) ha hc (by unfold zn; decide)
        generalize (B160 a b c x 0 S4) = S5 at f ⊢
        generalize (A160 a b c x 0 S4) = r3 at f ⊢
        obtain ⟨w5, _, z⟩ := f
        refine zH_pre (zr_1_6 i331_218 (zr_0 i331_219 kc_3 (zr_13_3 i331_220 nz_3 (zr_0 i331_221 kc_3 (zr_13_4 i331_222 nz_3 (zr_0 i331_223 kc_2 (zt_rfl))))))) ?_
        have hc : ((zrem (d / 3) 3) = 2) := hst
        refine zH_pre (zt_cast (zr_19_1 i331_224 (fun _ => zt_rfl) (fun _ => zt_rfl)) (if_pos hc)) ?_
        clear hc
        refine zH_pre (zr_0 i331_225 kc_m1 (zr_17 i331_226 (zt_rfl))) ?_
        have hc : ¬ ((-1) ≤ r3) := by
            rcases z with ⟨z1, _⟩ | ⟨_, z2, z3, _⟩
            · exact jne1 z1
            · rw [(jl107 hc h4.1 hx).2.1, h4.2.1] at z2 z3; exact absurd hst z2
        refine zH_pre (zt_cast (zr_19_3 i331_228 (fun _ => zt_rfl) (fun _ => zt_rfl)) (if_neg hc)) ?_
        clear hc
        refine zH_pre (zr_0 i331_229 kc_1 (zr_17 i331_230 (zt_rfl))) ?_
        exact zH_ret (zr_26 i331_232 zo_1) ⟨rfl, jLaw_u (by omega) w5⟩
      · refine zH_pre (zt_cast (zr_19_1 i331_196 (fun _ => zt_rfl) (fun _ => zt_rfl)) (if_neg hst0)) ?_
        have hst : ¬ (zrem (d / 3) 3) = 2 := fun h2 => hst0 (by rw [f, if_pos h2])
        refine zH_pre (zr_0 i331_199 kc_0 (zr_1_6 i331_200 (zr_0 i331_201 kc_3 (zr_13_3 i331_202 nz_3 (zr_0 i331_203 kc_3 (zr_13_4 i331_204 nz_3 (zr_0 i331_205 kc_2 (zt_rfl)))))))) ?_
        have hc : ¬ ((zrem (d / 3) 3) = 2) := hst
        refine zH_pre (zt_cast (zr_19_1 i331_206 (fun _ => zt_rfl) (fun _ => zt_rfl)) (if_neg hc)) ?_
        clear hc
        refine zH_pre (zr_0 i331_209 kc_0 (zt_rfl)) ?_
        refine zH_pre (zr_19f_1 i331_210 (by decide) zt_rfl) ?_
        refine zH_pre (zr_2_0 i331_211 (zr_1_3 i331_212 (zr_1_4 i331_213 (zr_1_5 i331_214 (zr_1_8 i331_215 (zr_0 i331_216 kc_0 (zt_rfl))))))) ?_
        have hP : jP160 a b c x 0 S4 := ⟨jI_n (by omega) w4.1, ha, (by have := zx_iff.mp hc; simp only [zk_lt, zk_le, zk_1, jk_0, jk_2, jk_3, jk_4, jk_5, jk_6, jk_7, jk_8, jk_10, jk_11, jk_13, jk_14, jk_15, jk_16, jk_18, jk_20, jk_24, jk_25, jk_36, jk_40, jk_50, jk_64, jk_72, jk_100, jk_120, jk_200, jk_201, jk_216, jk_255, jk_256, jk_257, jk_512, jk_1000, jk_2048, jk_9999, jk_10000, jk_65521, jk_65536, jk_104729, jk_2147483647, jk_m1, jk_m2, jk_m3, jk_m4, jk_m5, jk_m6, jk_m7, jk_m8, jk_m9, jk_m10, jk_m11, jk_m12, jk_m13, jk_m14]; omega), (by simp only [zk_lt, zk_le, zk_1, jk_0, jk_2, jk_3, jk_4, jk_5, jk_6, jk_7, jk_8, jk_10, jk_11, jk_13, jk_14, jk_15, jk_16, jk_18, jk_20, jk_24, jk_25, jk_36, jk_40, jk_50, jk_64, jk_72, jk_100, jk_120, jk_200, jk_201, jk_216, jk_255, jk_256, jk_257, jk_512, jk_1000, jk_2048, jk_9999, jk_10000, jk_65521, jk_65536, jk_104729, jk_2147483647, jk_m1, jk_m2, jk_m3, jk_m4, jk_m5, jk_m6, jk_m7, jk_m8, jk_m9, jk_m10, jk_m11, jk_m12, jk_m13, jk_m14]; omega)⟩
        refine zH_call (zs_21_5 i331_217 na_160 ob_0 rfl) (y160 a b c x 0 S4 hP) ?_
        have f := jv160 (b := b) (by omega) w4 x (e := 0) ha hc (by unfold zn; decide)
        generalize (B160 a b c x 0 S4) = S5 at f ⊢
        generalize (A160 a b c x 0 S4) = r3 at f ⊢
        obtain ⟨w5, _, z⟩ := f
        refine zH_pre (zr_1_6 i331_218 (zr_0 i331_219 kc_3 (zr_13_3 i331_220 nz_3 (zr_0 i331_221 kc_3 (zr_13_4 i331_222 nz_3 (zr_0 i331_223 kc_2 (zt_rfl))))))) ?_
        have hc : ¬ ((zrem (d / 3) 3) = 2) := hst
        refine zH_pre (zt_cast (zr_19_1 i331_224 (fun _ => zt_rfl) (fun _ => zt_rfl)) (if_neg hc)) ?_
        clear hc
        refine zH_pre (zr_0 i331_227 kc_3 (zt_rfl)) ?_
        have hc : ¬ (3 ≤ r3) := by
            rcases z with ⟨z1, _⟩ | ⟨_, z2, z3, _⟩
            · rw [zk_le, jk_3]; have := z1.2; omega
            · rw [(jl107 hc h4.1 hx).2.1, h4.2.1] at z2 z3; rw [z3, zk_le, jk_3]; omega
        refine zH_pre (zt_cast (zr_19_3 i331_228 (fun _ => zt_rfl) (fun _ => zt_rfl)) (if_neg hc)) ?_
        clear hc
        refine zH_pre (zr_0 i331_229 kc_1 (zr_17 i331_230 (zt_rfl))) ?_
        exact zH_ret (zr_26 i331_232 zo_1) ⟨rfl, jLaw_u (by omega) w5⟩
    · refine zH_pre (zt_cast (zr_19_2 i331_184 (fun _ => zt_rfl) (fun _ => zt_rfl)) (if_neg ht)) ?_
      have ht2 : (zrem (d / 3) 3) = 0 := by
        rcases v2 with e | ⟨e1, e2⟩
        · exact absurd (by rw [zk_lt, jk_m1]; exact e.2) ht
        · rw [F110, (jl107 hc h1.1 hx).2.1, if_neg l107.2.2.2, h1.2.1] at e2
          by_cases h0 : (zrem (d / 3) 3) = 0
          · exact h0
          · rw [if_neg h0] at e2; rw [e2] at e1; exact absurd e1.1 (by decide)
      refine zH_pre (zr_1_6 i331_185 (zr_0 i331_186 kc_3 (zr_13_3 i331_187 nz_3 (zr_0 i331_188 kc_3 (zr_13_4 i331_189 nz_3 (zt_rfl)))))) ?_
      have hc : ((zrem (d / 3) 3) = 0) := ht2
      refine zH_pre (zt_cast (zr_18_1 i331_190 (fun _ => zt_rfl) (fun _ => zt_rfl)) (if_pos hc)) ?_
      clear hc
      refine zH_pre (zr_2_0 i331_191 (zr_1_5 i331_192 (zr_1_8 i331_193 (zt_rfl)))) ?_
      have hP : jP161 c x S4 := ⟨jI_n (by omega) w4.1, (by have := zx_iff.mp hc; simp only [zk_lt, zk_le, zk_1, jk_0, jk_2, jk_3, jk_4, jk_5, jk_6, jk_7, jk_8, jk_10, jk_11, jk_13, jk_14, jk_15, jk_16, jk_18, jk_20, jk_24, jk_25, jk_36, jk_40, jk_50, jk_64, jk_72, jk_100, jk_120, jk_200, jk_201, jk_216, jk_255, jk_256, jk_257, jk_512, jk_1000, jk_2048, jk_9999, jk_10000, jk_65521, jk_65536, jk_104729, jk_2147483647, jk_m1, jk_m2, jk_m3, jk_m4, jk_m5, jk_m6, jk_m7, jk_m8, jk_m9, jk_m10, jk_m11, jk_m12, jk_m13, jk_m14]; omega)⟩
      refine zH_call (zs_21_2 i331_194 na_161 ob_0 rfl) (y161 c x S4 hP) ?_
      have f := (show (A161 c x S4) = (if (zrem (d / 3) 3) = 2 then (-1 : Int32) else S4 53 (jsl c x).toNatClampNeg) from by unfold A161; rw [(jl107 hc h4.1 hx).2.1, if_neg l107.2.2.2, h4.2.1])
      generalize (A161 c x S4) = kk at f ⊢
      have hst : ¬ (zrem (d / 3) 3) = 2 := by rw [ht2]; decide
      rw [if_neg hst] at f
      refine zH_pre (zr_0 i331_195 kc_m1 (zt_rfl)) ?_
      have hc : ¬ (kk = (-1)) := by rw [f]; intro e; have := (rSto_2 (jI_Sto w4.1)) (jsl c x).toNatClampNeg; rw [e] at this; exact absurd this (by decide)
      refine zH_pre (zt_cast (zr_19_1 i331_196 (fun _ => zt_rfl) (fun _ => zt_rfl)) (if_neg hc)) ?_
      clear hc
      refine zH_pre (zr_0 i331_199 kc_0 (zr_1_6 i331_200 (zr_0 i331_201 kc_3 (zr_13_3 i331_202 nz_3 (zr_0 i331_203 kc_3 (zr_13_4 i331_204 nz_3 (zr_0 i331_205 kc_2 (zt_rfl)))))))) ?_
      have hc : ¬ ((zrem (d / 3) 3) = 2) := hst
      refine zH_pre (zt_cast (zr_19_1 i331_206 (fun _ => zt_rfl) (fun _ => zt_rfl)) (if_neg hc)) ?_
      clear hc
      refine zH_pre (zr_0 i331_209 kc_0 (zt_rfl)) ?_
      refine zH_pre (zr_19f_1 i331_210 (by decide) zt_rfl) ?_
      refine zH_pre (zr_2_0 i331_211 (zr_1_3 i331_212 (zr_1_4 i331_213 (zr_1_5 i331_214 (zr_1_8 i331_215 (zr_0 i331_216 kc_0 (zt_rfl))))))) ?_
      have hP : jP160 a b c x 0 S4 := ⟨jI_n (by omega) w4.1, ha, (by have := zx_iff.mp hc; simp only [zk_lt, zk_le, zk_1, jk_0, jk_2, jk_3, jk_4, jk_5, jk_6, jk_7, jk_8, jk_10, jk_11, jk_13, jk_14, jk_15, jk_16, jk_18, jk_20, jk_24, jk_25, jk_36, jk_40, jk_50, jk_64, jk_72, jk_100, jk_120, jk_200, jk_201, jk_216, jk_255, jk_256, jk_257, jk_512, jk_1000, jk_2048, jk_9999, jk_10000, jk_65521, jk_65536, jk_104729, jk_2147483647, jk_m1, jk_m2, jk_m3, jk_m4, jk_m5, jk_m6, jk_m7, jk_m8, jk_m9, jk_m10, jk_m11, jk_m12, jk_m13, jk_m14]; omega), (by simp only [zk_lt, zk_le, zk_1, jk_0, jk_2, jk_3, jk_4, jk_5, jk_6, jk_7, jk_8, jk_10, jk_11, jk_13, jk_14, jk_15, jk_16, jk_18, jk_20, jk_24, jk_25, jk_36, jk_40, jk_50, jk_64, jk_72, jk_100, jk_120, jk_200, jk_201, jk_216, jk_255, jk_256, jk_257, jk_512, jk_1000, jk_2048, jk_9999, jk_10000, jk_65521, jk_65536, jk_104729, jk_2147483647, jk_m1, jk_m2, jk_m3, jk_m4, jk_m5, jk_m6, jk_m7, jk_m8, jk_m9, jk_m10, jk_m11, jk_m12, jk_m13, jk_m14]; omega)⟩
      refine zH_call (zs_21_5 i331_217 na_160 ob_0 rfl) (y160 a b c x 0 S4 hP) ?_
      have f := jv160 (b := b) (by omega) w4 x (e := 0) ha hc (by unfold zn; decide)
      generalize (B160 a b c x 0 S4) = S5 at f ⊢
      generalize (A160 a b c x 0 S4) = r3 at f ⊢
      obtain ⟨w5, _, z⟩ := f
      refine zH_pre (zr_1_6 i331_218 (zr_0 i331_219 kc_3 (zr_13_3 i331_220 nz_3 (zr_0 i331_221 kc_3 (zr_13_4 i331_222 nz_3 (zr_0 i331_223 kc_2 (zt_rfl))))))) ?_
      have hc : ¬ ((zrem (d / 3) 3) = 2) := hst
      refine zH_pre (zt_cast (zr_19_1 i331_224 (fun _ => zt_rfl) (fun _ => zt_rfl)) (if_neg hc)) ?_
      clear hc
      refine zH_pre (zr_0 i331_227 kc_3 (zt_rfl)) ?_
      have hc : ¬ (3 ≤ r3) := by
          rcases z with ⟨z1, _⟩ | ⟨_, z2, z3, _⟩
          · rw [zk_le, jk_3]; have := z1.2; omega
          · rw [(jl107 hc h4.1 hx).2.1, h4.2.1] at z2 z3; rw [z3, zk_le, jk_3]; omega
      refine zH_pre (zt_cast (zr_19_3 i331_228 (fun _ => zt_rfl) (fun _ => zt_rfl)) (if_neg hc)) ?_
      clear hc
      refine zH_pre (zr_0 i331_229 kc_1 (zr_17 i331_230 (zt_rfl))) ?_
      exact zH_ret (zr_26 i331_232 zo_1) ⟨rfl, jLaw_u (by omega) w5⟩
  · refine zH_pre (zt_cast (zr_18_3 i331_156 (fun _ => zt_rfl) (fun _ => zt_rfl)) (if_neg hr)) ?_
    obtain ⟨z1, _⟩ := z.resolve_right (fun e => hr (by rw [e.2.2.1, zk_le, jk_0]; exact ((rSto_3 (jI_Sto w.1)) _).1))
    refine zH_pre (zr_1_9 i331_157 (zt_rfl)) ?_
    refine zH_pre (zr_18f_0 i331_158 (by decide) zt_rfl) ?_
    refine zH_pre (zr_1_12 i331_159 (zr_0 i331_160 kc_m1 (zt_rfl))) ?_
    have hc : ¬ ((-1) ≤ r) := jne1 z1
    refine zH_pre (zt_cast (zr_19_3 i331_161 (fun _ => zt_rfl) (fun _ => zt_rfl)) (if_neg hc)) ?_
    clear hc
    refine zH_pre (zr_0 i331_162 kc_1 (zr_17 i331_163 (zt_rfl))) ?_
    exact zH_ret (zr_26 i331_165 zo_1) ⟨rfl, jLaw_u (by omega) w1⟩
set_option maxRecDepth 100000 in
theorem q331b {L : Nat} (a b c d x t : Int32) (u7 : Option zV) {S : zS} {n : Nat} (hn : n < 482) (w : jLaw n S) (ha : zn 39 a) (hb : 0 ≤ b.toInt ∧ b.toInt < 4) (hc : zx 216 c) (hd : 0 ≤ d.toInt) (hx : 1 ≤ x.toInt ∧ x.toInt ≤ 1000) (h : jLast c x 0 S) : zH L 331 (106, [some (.inr (.inr 0)), some (.inr (.inr 13)), some (.inr (.inr 81)), some (.inl a), some (.inl b), some (.inl c), some (.inl d), u7, some (.inl x), some (.inl 1), some (.inl t), none, none], [], S) (jQ (fun S' => jLaw (n + 4) S')) := by
  have hx2 := zx_iff.mp hc
  have hnc := zk_nat hx2.1
  refine zH_pre (zr_2_0 i331_106 (zr_1_3 i331_107 (zr_1_5 i331_108 (zr_1_8 i331_109 (zt_rfl))))) ?_
  have hP : jP183 a c x S := ⟨jI_n (by omega) w.1, ha, (by simp only [zk_lt, zk_le, zk_1, jk_0, jk_2, jk_3, jk_4, jk_5, jk_6, jk_7, jk_8, jk_10, jk_11, jk_13, jk_14, jk_15, jk_16, jk_18, jk_20, jk_24, jk_25, jk_36, jk_40, jk_50, jk_64, jk_72, jk_100, jk_120, jk_200, jk_201, jk_216, jk_255, jk_256, jk_257, jk_512, jk_1000, jk_2048, jk_9999, jk_10000, jk_65521, jk_65536, jk_104729, jk_2147483647, jk_m1, jk_m2, jk_m3, jk_m4, jk_m5, jk_m6, jk_m7, jk_m8, jk_m9, jk_m10, jk_m11, jk_m12, jk_m13, jk_m14]; omega)⟩
  refine zH_call (zs_21_3 i331_110 na_183 ob_0 rfl) (y183 a c x S hP) ?_
  have f := (show jRef (A183 a c x S) from jv183 hx.1 h)
  generalize (A183 a c x S) = r at f ⊢
  have hr := f
  refine zH_pre (zr_3_11 i331_111 (zr_1_9 i331_112 (zt_rfl))) ?_
  refine zH_pre (zr_18f_0 i331_113 (by decide) zt_rfl) ?_
  refine zH_pre (zr_1_11 i331_114 (zr_0 i331_115 kc_m1 (zt_rfl))) ?_
  have hc : (r < (-1)) := by rw [zk_lt, jk_m1]; exact hr.2
  refine zH_pre (zt_cast (zr_19_2 i331_116 (fun _ => zt_rfl) (fun _ => zt_rfl)) (if_pos hc)) ?_
  clear hc
  refine zH_pre (zr_2_0 i331_122 (zr_1_3 i331_123 (zr_1_4 i331_124 (zr_1_5 i331_125 (zr_0 i331_126 kc_5 (zr_1_8 i331_127 (zr_0 i331_128 kc_1 (zr_13_1 i331_129 (zt_rfl))))))))) ?_
  have e1 : (x - 1).toInt = x.toInt - 1 := by rw [zk_tsub (by rw [zk_1]; omega) (by rw [zk_1]; omega), zk_1]
  have hP : jP159 a b c 5 (x - 1) S := ⟨jI_n (by omega) w.1, ha, (by have := zx_iff.mp hc; simp only [zk_lt, zk_le, zk_1, jk_0, jk_2, jk_3, jk_4, jk_5, jk_6, jk_7, jk_8, jk_10, jk_11, jk_13, jk_14, jk_15, jk_16, jk_18, jk_20, jk_24, jk_25, jk_36, jk_40, jk_50, jk_64, jk_72, jk_100, jk_120, jk_200, jk_201, jk_216, jk_255, jk_256, jk_257, jk_512, jk_1000, jk_2048, jk_9999, jk_10000, jk_65521, jk_65536, jk_104729, jk_2147483647, jk_m1, jk_m2, jk_m3, jk_m4, jk_m5, jk_m6, jk_m7, jk_m8, jk_m9, jk_m10, jk_m11, jk_m12, jk_m13, jk_m14]; omega), (by simp only [zk_lt, zk_le, zk_1, jk_0, jk_2, jk_3, jk_4, jk_5, jk_6, jk_7, jk_8, jk_10, jk_11, jk_13, jk_14, jk_15, jk_16, jk_18, jk_20, jk_24, jk_25, jk_36, jk_40, jk_50, jk_64, jk_72, jk_100, jk_120, jk_200, jk_201, jk_216, jk_255, jk_256, jk_257, jk_512, jk_1000, jk_2048, jk_9999, jk_10000, jk_65521, jk_65536, jk_104729, jk_2147483647, jk_m1, jk_m2, jk_m3, jk_m4, jk_m5, jk_m6, jk_m7, jk_m8, jk_m9, jk_m10, jk_m11, jk_m12, jk_m13, jk_m14]; omega)⟩
  refine zH_call (zs_21_5 i331_130 na_159 ob_0 rfl) (y159 a b c 5 (x - 1) S hP) ?_
  have f := jv159 (b := b) (by omega) w (d := 5) (x - 1) ha hc (by unfold zn; decide)
  generalize (B159 a b c 5 (x - 1) S) = S1 at f ⊢
  generalize (A159 a b c 5 (x - 1) S) = r2 at f ⊢
  obtain ⟨w1, _, _, _, _, _, z⟩ := f
  obtain ⟨z1, z2⟩ := z.resolve_right (fun e => by
    rcases e.2.1 with e9 | e9
    · have e8 := congrArg Int32.toInt e9; rw [e1, jk_m1] at e8; omega
    · rw [h.1] at e9; have e8 := congrArg Int32.toInt e9; rw [e1] at e8; omega)
  refine zH_pre (zr_0 i331_131 kc_m1 (zt_rfl)) ?_
  have hc : ¬ ((-1) ≤ r2) := jne1 z1
  refine zH_pre (zt_cast (zr_19_3 i331_132 (fun _ => zt_rfl) (fun _ => zt_rfl)) (if_neg hc)) ?_
  clear hc
  refine zH_pre (zr_0 i331_133 kc_1 (zr_17 i331_134 (zr_3_9 i331_136 (zr_1_6 i331_137 (zr_0 i331_138 kc_3 (zr_13_4 i331_139 nz_3 (zt_rfl))))))) ?_
  by_cases h3 : ((zrem d 3) ≤ 0)
  · refine zH_pre (zt_cast (zr_18_5 i331_140 (fun _ => zt_rfl) (fun _ => zt_rfl)) (if_pos h3)) ?_
    exact q331e a b c d x _ u7 _ (n := n + 1) (by omega) w1 ha hb hc hd hx (jLast_k rfl rfl rfl z2 h)
  · refine zH_pre (zt_cast (zr_18_5 i331_140 (fun _ => zt_rfl) (fun _ => zt_rfl)) (if_neg h3)) ?_
    refine zH_pre (zr_1_9 i331_141 (zt_rfl)) ?_
    exact zH_ret (zr_26 i331_142 zo_1) ⟨rfl, jLaw_u (by omega) w1⟩
set_option maxRecDepth 100000 in
theorem q331 {L : Nat} (a b c d : Int32) {S : zS} {n : Nat} (hn : n < 480) (w : jLaw n S) (ha : zn 39 a) (hb : 0 ≤ b.toInt ∧ b.toInt < 4) (hc : zx 216 c) (hd : 0 ≤ d.toInt) : ∃ S', zf L 331 [.inr (.inr 0), .inr (.inr 13), .inr (.inr 81), .inl a, .inl b, .inl c, .inl d] S (.inl (some (.inl 1)), S', 0) ∧ jLaw (n + 6) S' := by
  refine zH_f (en_331 _ _ _ _ _ _ _) ?_
  have hx2 := zx_iff.mp hc
  have hd1 := jrem (x := d) (y := 10000) hd (by decide)
  rw [jk_10000] at hd1
  have hE := jE_f w hc
  have g0 : zx 12 (c / 36) := by have := zx_iff.mp (jdiv36 hc); rw [zx_iff]; omega
  refine zH_pre (zr_2_2 i331_0 (zr_1_5 i331_1 (zr_0 i331_2 kc_36 (zr_13_3 i331_3 nz_36 (zr_8 i331_4 ar_81 (g0) rfl rfl (zr_0 i331_5 kc_1 (zt_rfl))))))) ?_
  by_cases hF : ((S 81 (c / 36).toNatClampNeg) = 1)
  · refine zH_pre (zt_cast (zr_19_1 i331_6 (fun _ => zt_rfl) (fun _ => zt_rfl)) (if_pos hF)) ?_
    refine zH_pre (zr_0 i331_7 kc_1 (zr_17 i331_8 (zr_3_7 i331_10 (zr_2_0 i331_11 (zr_1_3 i331_12 (zr_1_4 i331_13 (zr_1_5 i331_14 (zr_1_6 i331_15 (zr_0 i331_16 kc_10000 (zr_13_4 i331_17 nz_10000 (zr_0 i331_18 kc_m1 (zt_rfl)))))))))))) ?_
    have hP : jP159 a b c (zrem d 10000) (-1) S := ⟨jI_n (by omega) w.1, ha, (by have := zx_iff.mp hc; simp only [zk_lt, zk_le, zk_1, jk_0, jk_2, jk_3, jk_4, jk_5, jk_6, jk_7, jk_8, jk_10, jk_11, jk_13, jk_14, jk_15, jk_16, jk_18, jk_20, jk_24, jk_25, jk_36, jk_40, jk_50, jk_64, jk_72, jk_100, jk_120, jk_200, jk_201, jk_216, jk_255, jk_256, jk_257, jk_512, jk_1000, jk_2048, jk_9999, jk_10000, jk_65521, jk_65536, jk_104729, jk_2147483647, jk_m1, jk_m2, jk_m3, jk_m4, jk_m5, jk_m6, jk_m7, jk_m8, jk_m9, jk_m10, jk_m11, jk_m12, jk_m13, jk_m14]; omega), (by simp only [zk_lt, zk_le, zk_1, jk_0, jk_2, jk_3, jk_4, jk_5, jk_6, jk_7, jk_8, jk_10, jk_11, jk_13, jk_14, jk_15, jk_16, jk_18, jk_20, jk_24, jk_25, jk_36, jk_40, jk_50, jk_64, jk_72, jk_100, jk_120, jk_200, jk_201, jk_216, jk_255, jk_256, jk_257, jk_512, jk_1000, jk_2048, jk_9999, jk_10000, jk_65521, jk_65536, jk_104729, jk_2147483647, jk_m1, jk_m2, jk_m3, jk_m4, jk_m5, jk_m6, jk_m7, jk_m8, jk_m9, jk_m10, jk_m11, jk_m12, jk_m13, jk_m14]; omega)⟩
    refine zH_call (zs_21_5 i331_19 na_159 ob_0 rfl) (y159 a b c (zrem d 10000) (-1) S hP) ?_
    have f := jv159 (b := b) (by omega) w (d := zrem d 10000) (-1) ha hc (by unfold zn; omega)
    generalize (B159 a b c (zrem d 10000) (-1) S) = S1 at f ⊢
    generalize (A159 a b c (zrem d 10000) (-1) S) = x at f ⊢
    obtain ⟨w1, k13, k81, k59, k6, k2, z⟩ := f
    refine zH_pre (zr_3_8 i331_20 (zr_1_8 i331_21 (zt_rfl))) ?_
    by_cases hv : (0 < x)
    · refine zH_pre (zt_cast (zr_18_4 i331_22 (fun _ => zt_rfl) (fun _ => zt_rfl)) (if_pos hv)) ?_
      obtain ⟨g1, _, g2, hx, h1, f52, f53⟩ := z.resolve_left (fun e => by have := e.1.2; rw [zk_lt, jk_0] at hv; omega)
      have l107 := jl107 hc h1.1 hx
      have h16 : S 1 6 = 1 := (rSea_0 (jI_Sea w.1)).resolve_left g1
      have hA : (if S1 54 (jsl c x).toNatClampNeg = 2 then (-1 : Int32) else S1 53 (jsl c x).toNatClampNeg) = S1 53 (jsl c x).toNatClampNeg := if_neg (by rw [h1.2.1]; decide)
      refine zH_pre (zr_1_7 i331_41 (zt_rfl)) ?_
      refine zH_pre (zr_18f_0 i331_42 (by decide) zt_rfl) ?_
      refine zH_pre (zr_2_1 i331_43 (zr_0 i331_44 kc_8 (zr_8 i331_45 ar_13 (zx_9_8) kt_8 rfl (zr_0 i331_46 kc_1 (zt_rfl))))) ?_
      have hc : ((S1 13 8) = 1) := by rw [k13]; exact (jcx8 w.2.1).trans h16
      refine zH_pre (zt_cast (zr_19_1 i331_47 (fun _ => zt_rfl) (fun _ => zt_rfl)) (if_pos hc)) ?_
      clear hc
      refine zH_pre (zr_2_0 i331_48 (zr_1_5 i331_49 (zr_0 i331_50 kc_0 (zt_rfl)))) ?_
      have hP : jP161 c 0 S1 := ⟨jI_n (by omega) w1.1, (by simp only [zk_lt, zk_le, zk_1, jk_0, jk_2, jk_3, jk_4, jk_5, jk_6, jk_7, jk_8, jk_10, jk_11, jk_13, jk_14, jk_15, jk_16, jk_18, jk_20, jk_24, jk_25, jk_36, jk_40, jk_50, jk_64, jk_72, jk_100, jk_120, jk_200, jk_201, jk_216, jk_255, jk_256, jk_257, jk_512, jk_1000, jk_2048, jk_9999, jk_10000, jk_65521, jk_65536, jk_104729, jk_2147483647, jk_m1, jk_m2, jk_m3, jk_m4, jk_m5, jk_m6, jk_m7, jk_m8, jk_m9, jk_m10, jk_m11, jk_m12, jk_m13, jk_m14]; omega)⟩
      refine zH_call (zs_21_2 i331_51 na_161 ob_0 rfl) (y161 c 0 S1 hP) ?_
      have f := (show (A161 c 0 S1) = S1 53 (jsl c x).toNatClampNeg from by unfold A161; rw [l107.1, if_neg l107.2.2.2]; exact hA)
      generalize (A161 c 0 S1) = k1 at f ⊢
      have hk1 := f
      refine zH_pre (zr_2_0 i331_52 (zt_rfl)) ?_
      have hP : jP142  S1 := jI_n (by omega) w1.1
      refine zH_call (zs_21_0 i331_53 na_142 ob_0 rfl) (y142  S1 hP) ?_
      have f := (show (A142 S1) = S1 2 0 from rfl)
      generalize (A142 S1) = k3 at f ⊢
      have hk3 := f
      have hc : (k1 = k3) := by rw [hk1, hk3]; exact f53
      refine zH_pre (zt_cast (zr_19_1 i331_54 (fun _ => zt_rfl) (fun _ => zt_rfl)) (if_pos hc)) ?_
      clear hc
      refine zH_pre (zr_2_0 i331_55 (zr_1_5 i331_56 (zr_1_8 i331_57 (zt_rfl)))) ?_
      have hP : jP161 c x S1 := ⟨jI_n (by omega) w1.1, (by simp only [zk_lt, zk_le, zk_1, jk_0, jk_2, jk_3, jk_4, jk_5, jk_6, jk_7, jk_8, jk_10, jk_11, jk_13, jk_14, jk_15, jk_16, jk_18, jk_20, jk_24, jk_25, jk_36, jk_40, jk_50, jk_64, jk_72, jk_100, jk_120, jk_200, jk_201, jk_216, jk_255, jk_256, jk_257, jk_512, jk_1000, jk_2048, jk_9999, jk_10000, jk_65521, jk_65536, jk_104729, jk_2147483647, jk_m1, jk_m2, jk_m3, jk_m4, jk_m5, jk_m6, jk_m7, jk_m8, jk_m9, jk_m10, jk_m11, jk_m12, jk_m13, jk_m14]; omega)⟩
      refine zH_call (zs_21_2 i331_58 na_161 ob_0 rfl) (y161 c x S1 hP) ?_
      have f := (show (A161 c x S1) = S1 53 (jsl c x).toNatClampNeg from by unfold A161; rw [l107.2.1, if_neg l107.2.2.2]; exact hA)
      generalize (A161 c x S1) = k4 at f ⊢
      have hk4 := f
      refine zH_pre (zr_2_0 i331_59 (zt_rfl)) ?_
      have hP : jP142  S1 := jI_n (by omega) w1.1
      refine zH_call (zs_21_0 i331_60 na_142 ob_0 rfl) (y142  S1 hP) ?_
      have f := (show (A142 S1) = S1 2 0 from rfl)
      generalize (A142 S1) = k5 at f ⊢
      have hk5 := f
      have hc : (k4 = k5) := by rw [hk4, hk5]; exact f53
      refine zH_pre (zt_cast (zr_19_1 i331_61 (fun _ => zt_rfl) (fun _ => zt_rfl)) (if_pos hc)) ?_
      clear hc
      have e1 : (x + 1).toInt = x.toInt + 1 := by rw [zk_tadd (by rw [zk_1]; omega) (by rw [zk_1]; omega), zk_1]
      refine zH_pre (zr_2_0 i331_62 (zr_1_5 i331_63 (zr_1_8 i331_64 (zr_0 i331_65 kc_1 (zr_13_0 i331_66 (zt_rfl)))))) ?_
      have hP : jP161 c (x + 1) S1 := ⟨jI_n (by omega) w1.1, (by simp only [zk_lt, zk_le, e1, zk_1, jk_0, jk_2, jk_3, jk_4, jk_5, jk_6, jk_7, jk_8, jk_10, jk_11, jk_13, jk_14, jk_15, jk_16, jk_18, jk_20, jk_24, jk_25, jk_36, jk_40, jk_50, jk_64, jk_72, jk_100, jk_120, jk_200, jk_201, jk_216, jk_255, jk_256, jk_257, jk_512, jk_1000, jk_2048, jk_9999, jk_10000, jk_65521, jk_65536, jk_104729, jk_2147483647, jk_m1, jk_m2, jk_m3, jk_m4, jk_m5, jk_m6, jk_m7, jk_m8, jk_m9, jk_m10, jk_m11, jk_m12, jk_m13, jk_m14]; omega)⟩
      refine zH_call (zs_21_2 i331_67 na_161 ob_0 rfl) (y161 c (x + 1) S1 hP) ?_
      have f := (show (A161 c (x + 1) S1) = -1 from by unfold A161; rw [l107.2.2.1]; rfl)
      generalize (A161 c (x + 1) S1) = k6x at f ⊢
      refine zH_pre (zr_0 i331_68 kc_m1 (zt_rfl)) ?_
      have hc : (k6x = (-1)) := f
      refine zH_pre (zt_cast (zr_19_1 i331_69 (fun _ => zt_rfl) (fun _ => zt_rfl)) (if_pos hc)) ?_
      clear hc
      refine zH_pre (zr_0 i331_70 kc_1 (zr_17 i331_71 (zr_3_9 i331_73 (zr_2_0 i331_74 (zr_1_3 i331_75 (zr_1_4 i331_76 (zr_1_5 i331_77 (zr_1_6 i331_78 (zr_0 i331_79 kc_2 (zr_13_4 i331_80 nz_2 (zt_rfl))))))))))) ?_
      by_cases h2 : ((zrem d 2) = 0)
      · refine zH_pre (zt_cast (zr_18_1 i331_81 (fun _ => zt_rfl) (fun _ => zt_rfl)) (if_pos h2)) ?_
        refine zH_pre (zr_0 i331_82 kc_0 (zr_17 i331_83 (zt_rfl))) ?_
        have hP : jP158 a b c 0 S1 := ⟨jI_n (by omega) w1.1, ha, (by simp only [zk_lt, zk_le, zk_1, jk_0, jk_2, jk_3, jk_4, jk_5, jk_6, jk_7, jk_8, jk_10, jk_11, jk_13, jk_14, jk_15, jk_16, jk_18, jk_20, jk_24, jk_25, jk_36, jk_40, jk_50, jk_64, jk_72, jk_100, jk_120, jk_200, jk_201, jk_216, jk_255, jk_256, jk_257, jk_512, jk_1000, jk_2048, jk_9999, jk_10000, jk_65521, jk_65536, jk_104729, jk_2147483647, jk_m1, jk_m2, jk_m3, jk_m4, jk_m5, jk_m6, jk_m7, jk_m8, jk_m9, jk_m10, jk_m11, jk_m12, jk_m13, jk_m14]; omega)⟩
        refine zH_call (zs_21_4 i331_85 na_158 ob_0 rfl) (y158 a b c 0 S1 hP) ?_
        have f := jv158 (b := b) (by omega) w1 0 ha hc
        generalize (B158 a b c 0 S1) = S2 at f ⊢
        generalize (A158 a b c 0 S1) = t at f ⊢
        obtain ⟨k2, i2, c2, e2, v2, _⟩ := f
        refine zH_pre (zr_3_10 i331_86 (zr_2_1 i331_87 (zr_0 i331_88 kc_4 (zr_2_0 i331_89 (zt_rfl))))) ?_
        have hP : jP174  S2 := jI_n (by omega) i2
        refine zH_call (zs_21_0 i331_90 na_174 ob_0 rfl) (y174  S2 hP) ?_
        have f := (show (A174 S2) = S2 10 4 from rfl)
        generalize (A174 S2) = cs at f ⊢
        have hcs := f
        refine zH_pre (zr_10 i331_91 ar_13 (zx_9_4) kt_4 (zr_1_9 i331_92 (zt_rfl))) ?_
        have f := (show jLaw (n + 2) (z_up S2 13 4 cs) ∧ jLast c x 0 (z_up S2 13 4 cs) from ⟨⟨jI_13 i2 4 _ rfl, jCx_up4 c2 hcs [] jmem1, jE_13 e2 4 _⟩, jLast_k (l := [13]) (fl := [13004]) rfl rfl rfl (zkp_upf zkp_S rfl rfl) (jLast_k rfl rfl rfl k2 h1)⟩)
        generalize (z_up S2 13 4 cs) = S3 at f ⊢
        obtain ⟨w3, h3⟩ := f
        refine zH_pre (zr_18f_0 i331_93 (by decide) zt_rfl) ?_
        refine zH_pre (zr_1_10 i331_94 (zr_1_6 i331_95 (zr_0 i331_96 kc_10000 (zr_13_4 i331_97 nz_10000 (zt_rfl))))) ?_
        by_cases he : (t = (zrem d 10000))
        · refine zH_pre (zt_cast (zr_19_0 i331_98 (fun _ => zt_rfl) (fun _ => zt_rfl)) (if_pos he)) ?_
          refine zH_pre (zr_0 i331_102 kc_1 (zr_17 i331_103 (zr_3_9 i331_105 (zt_rfl)))) ?_
          exact q331b a b c d x _ _ (n := n + 2) (by omega) w3 ha hb hc hd hx h3
        · refine zH_pre (zt_cast (zr_19_0 i331_98 (fun _ => zt_rfl) (fun _ => zt_rfl)) (if_neg he)) ?_
          have ht : jRef t := by
            rcases v2 with e | ⟨e1, e2⟩
            · exact e
            · rw [F110, l107.1, if_neg l107.2.2.2, if_pos h1.2.1] at e2
              split at e2
              · exact absurd (e2.trans f52) he
              · rw [e2] at e1; exact absurd e1.1 (by decide)
          refine zH_pre (zr_1_10 i331_99 (zr_0 i331_100 kc_m1 (zt_rfl))) ?_
          have hc : ¬ ((-1) ≤ t) := jne1 ht
          refine zH_pre (zt_cast (zr_19_3 i331_101 (fun _ => zt_rfl) (fun _ => zt_rfl)) (if_neg hc)) ?_
          clear hc
          refine zH_pre (zr_0 i331_102 kc_1 (zr_17 i331_103 (zr_3_9 i331_105 (zt_rfl)))) ?_
          exact q331b a b c d x _ _ (n := n + 2) (by omega) w3 ha hb hc hd hx h3
      · refine zH_pre (zt_cast (zr_18_1 i331_81 (fun _ => zt_rfl) (fun _ => zt_rfl)) (if_neg h2)) ?_
        refine zH_pre (zr_1_8 i331_84 (zt_rfl)) ?_
        have hP : jP158 a b c x S1 := ⟨jI_n (by omega) w1.1, ha, (by simp only [zk_lt, zk_le, zk_1, jk_0, jk_2, jk_3, jk_4, jk_5, jk_6, jk_7, jk_8, jk_10, jk_11, jk_13, jk_14, jk_15, jk_16, jk_18, jk_20, jk_24, jk_25, jk_36, jk_40, jk_50, jk_64, jk_72, jk_100, jk_120, jk_200, jk_201, jk_216, jk_255, jk_256, jk_257, jk_512, jk_1000, jk_2048, jk_9999, jk_10000, jk_65521, jk_65536, jk_104729, jk_2147483647, jk_m1, jk_m2, jk_m3, jk_m4, jk_m5, jk_m6, jk_m7, jk_m8, jk_m9, jk_m10, jk_m11, jk_m12, jk_m13, jk_m14]; omega)⟩
        refine zH_call (zs_21_4 i331_85 na_158 ob_0 rfl) (y158 a b c x S1 hP) ?_
        have f := jv158 (b := b) (by omega) w1 x ha hc
        generalize (B158 a b c x S1) = S2 at f ⊢
        generalize (A158 a b c x S1) = t at f ⊢
        obtain ⟨k2, i2, c2, e2, v2, _⟩ := f
        refine zH_pre (zr_3_10 i331_86 (zr_2_1 i331_87 (zr_0 i331_88 kc_4 (zr_2_0 i331_89 (zt_rfl))))) ?_
        have hP : jP174  S2 := jI_n (by omega) i2
        refine zH_call (zs_21_0 i331_90 na_174 ob_0 rfl) (y174  S2 hP) ?_
        have f := (show (A174 S2) = S2 10 4 from rfl)
        generalize (A174 S2) = cs at f ⊢
        have hcs := f
        refine zH_pre (zr_10 i331_91 ar_13 (zx_9_4) kt_4 (zr_1_9 i331_92 (zt_rfl))) ?_
        have f := (show jLaw (n + 2) (z_up S2 13 4 cs) ∧ jLast c x 0 (z_up S2 13 4 cs) from ⟨⟨jI_13 i2 4 _ rfl, jCx_up4 c2 hcs [] jmem1, jE_13 e2 4 _⟩, jLast_k (l := [13]) (fl := [13004]) rfl rfl rfl (zkp_upf zkp_S rfl rfl) (jLast_k rfl rfl rfl k2 h1)⟩)
        generalize (z_up S2 13 4 cs) = S3 at f ⊢
        obtain ⟨w3, h3⟩ := f
        refine zH_pre (zr_18f_0 i331_93 (by decide) zt_rfl) ?_
        refine zH_pre (zr_1_10 i331_94 (zr_1_6 i331_95 (zr_0 i331_96 kc_10000 (zr_13_4 i331_97 nz_10000 (zt_rfl))))) ?_
        by_cases he : (t = (zrem d 10000))
        · refine zH_pre (zt_cast (zr_19_0 i331_98 (fun _ => zt_rfl) (fun _ => zt_rfl)) (if_pos he)) ?_
          refine zH_pre (zr_0 i331_102 kc_1 (zr_17 i331_103 (zr_3_9 i331_105 (zt_rfl)))) ?_
          exact q331b a b c d x _ _ (n := n + 2) (by omega) w3 ha hb hc hd hx h3
        · refine zH_pre (zt_cast (zr_19_0 i331_98 (fun _ => zt_rfl) (fun _ => zt_rfl)) (if_neg he)) ?_
          have ht : jRef t := by
            rcases v2 with e | ⟨e1, e2⟩
            · exact e
            · rw [F110, l107.2.1, if_neg l107.2.2.2, if_pos h1.2.1] at e2
              split at e2
              · exact absurd (e2.trans f52) he
              · rw [e2] at e1; exact absurd e1.1 (by decide)
          refine zH_pre (zr_1_10 i331_99 (zr_0 i331_100 kc_m1 (zt_rfl))) ?_
          have hc : ¬ ((-1) ≤ t) := jne1 ht
          refine zH_pre (zt_cast (zr_19_3 i331_101 (fun _ => zt_rfl) (fun _ => zt_rfl)) (if_neg hc)) ?_
          clear hc
          refine zH_pre (zr_0 i331_102 kc_1 (zr_17 i331_103 (zr_3_9 i331_105 (zt_rfl)))) ?_
          exact q331b a b c d x _ _ (n := n + 2) (by omega) w3 ha hb hc hd hx h3
    · refine zH_pre (zt_cast (zr_18_4 i331_22 (fun _ => zt_rfl) (fun _ => zt_rfl)) (if_neg hv)) ?_
      obtain ⟨z1, _⟩ := z.resolve_right (fun e => hv (by rw [zk_lt, jk_0]; have := e.2.2.2.1.1; omega))
      refine zH_pre (zr_1_8 i331_23 (zr_0 i331_24 kc_m1 (zt_rfl))) ?_
      have hc : ¬ ((-1) ≤ x) := jne1 z1
      refine zH_pre (zt_cast (zr_19_3 i331_25 (fun _ => zt_rfl) (fun _ => zt_rfl)) (if_neg hc)) ?_
      clear hc
      refine zH_pre (zr_1_8 i331_26 (zr_0 i331_27 kc_m14 (zt_rfl))) ?_
      have hc : ¬ (x ≤ (-14)) := jne14 z1
      refine zH_pre (zt_cast (zr_19_5 i331_28 (fun _ => zt_rfl) (fun _ => zt_rfl)) (if_neg hc)) ?_
      clear hc
      refine zH_pre (zr_2_1 i331_29 (zr_0 i331_30 kc_8 (zr_8 i331_31 ar_13 (zx_9_8) kt_8 rfl (zr_0 i331_32 kc_1 (zt_rfl))))) ?_
      by_cases h8 : ((S1 13 8) = 1)
      · refine zH_pre (zt_cast (zr_19_0 i331_33 (fun _ => zt_rfl) (fun _ => zt_rfl)) (if_pos h8)) ?_
        refine zH_pre (zr_0 i331_37 kc_1 (zr_17 i331_38 (zt_rfl))) ?_
        exact zH_ret (zr_26 i331_40 zo_1) ⟨rfl, jLaw_u (by omega) w1⟩
      · refine zH_pre (zt_cast (zr_19_0 i331_33 (fun _ => zt_rfl) (fun _ => zt_rfl)) (if_neg h8)) ?_
        have h6 : S 1 6 = 0 := (rSea_0 (jI_Sea w.1)).resolve_right (fun e => h8 (by rw [k13]; exact (jcx8 w.2.1).trans e))
        refine zH_pre (zr_1_8 i331_34 (zr_0 i331_35 kc_m2 (zt_rfl))) ?_
        have hc : (x = (-2)) := k2 h6
        refine zH_pre (zt_cast (zr_19_1 i331_36 (fun _ => zt_rfl) (fun _ => zt_rfl)) (if_pos hc)) ?_
        clear hc
        refine zH_pre (zr_0 i331_37 kc_1 (zr_17 i331_38 (zt_rfl))) ?_
        exact zH_ret (zr_26 i331_40 zo_1) ⟨rfl, jLaw_u (by omega) w1⟩
  · refine zH_pre (zt_cast (zr_19_1 i331_6 (fun _ => zt_rfl) (fun _ => zt_rfl)) (if_neg hF)) ?_
    refine zH_pre (zr_0 i331_9 kc_0 (zr_3_7 i331_10 (zr_2_0 i331_11 (zr_1_3 i331_12 (zr_1_4 i331_13 (zr_1_5 i331_14 (zr_1_6 i331_15 (zr_0 i331_16 kc_10000 (zr_13_4 i331_17 nz_10000 (zr_0 i331_18 kc_m1 (zt_rfl))))))))))) ?_
    have hP : jP159 a b c (zrem d 10000) (-1) S := ⟨jI_n (by omega) w.1, ha, (by have := zx_iff.mp hc; simp only [zk_lt, zk_le, zk_1, jk_0, jk_2, jk_3, jk_4, jk_5, jk_6, jk_7, jk_8, jk_10, jk_11, jk_13, jk_14, jk_15, jk_16, jk_18, jk_20, jk_24, jk_25, jk_36, jk_40, jk_50, jk_64, jk_72, jk_100, jk_120, jk_200, jk_201, jk_216, jk_255, jk_256, jk_257, jk_512, jk_1000, jk_2048, jk_9999, jk_10000, jk_65521, jk_65536, jk_104729, jk_2147483647, jk_m1, jk_m2, jk_m3, jk_m4, jk_m5, jk_m6, jk_m7, jk_m8, jk_m9, jk_m10, jk_m11, jk_m12, jk_m13, jk_m14]; omega), (by simp only [zk_lt, zk_le, zk_1, jk_0, jk_2, jk_3, jk_4, jk_5, jk_6, jk_7, jk_8, jk_10, jk_11, jk_13, jk_14, jk_15, jk_16, jk_18, jk_20, jk_24, jk_25, jk_36, jk_40, jk_50, jk_64, jk_72, jk_100, jk_120, jk_200, jk_201, jk_216, jk_255, jk_256, jk_257, jk_512, jk_1000, jk_2048, jk_9999, jk_10000, jk_65521, jk_65536, jk_104729, jk_2147483647, jk_m1, jk_m2, jk_m3, jk_m4, jk_m5, jk_m6, jk_m7, jk_m8, jk_m9, jk_m10, jk_m11, jk_m12, jk_m13, jk_m14]; omega)⟩
    refine zH_call (zs_21_5 i331_19 na_159 ob_0 rfl) (y159 a b c (zrem d 10000) (-1) S hP) ?_
    have f := jv159 (b := b) (by omega) w (d := zrem d 10000) (-1) ha hc (by unfold zn; omega)
    generalize (B159 a b c (zrem d 10000) (-1) S) = S1 at f ⊢
    generalize (A159 a b c (zrem d 10000) (-1) S) = x at f ⊢
    obtain ⟨w1, k13, k81, k59, k6, k2, z⟩ := f
    refine zH_pre (zr_3_8 i331_20 (zr_1_8 i331_21 (zt_rfl))) ?_
    by_cases hv : (0 < x)
    · refine zH_pre (zt_cast (zr_18_4 i331_22 (fun _ => zt_rfl) (fun _ => zt_rfl)) (if_pos hv)) ?_
      exact absurd (by rw [hE, (z.resolve_left (fun e => by have := e.1.2; rw [zk_lt, jk_0] at hv; omega)).2.2.1]; rfl) hF
    · refine zH_pre (zt_cast (zr_18_4 i331_22 (fun _ => zt_rfl) (fun _ => zt_rfl)) (if_neg hv)) ?_
      obtain ⟨z1, _⟩ := z.resolve_right (fun e => hv (by rw [zk_lt, jk_0]; have := e.2.2.2.1.1; omega))
      refine zH_pre (zr_1_8 i331_23 (zr_0 i331_24 kc_m1 (zt_rfl))) ?_
      have hc : ¬ ((-1) ≤ x) := jne1 z1
      refine zH_pre (zt_cast (zr_19_3 i331_25 (fun _ => zt_rfl) (fun _ => zt_rfl)) (if_neg hc)) ?_
      clear hc
      refine zH_pre (zr_1_8 i331_26 (zr_0 i331_27 kc_m14 (zt_rfl))) ?_
      have hc : ¬ (x ≤ (-14)) := jne14 z1
      refine zH_pre (zt_cast (zr_19_5 i331_28 (fun _ => zt_rfl) (fun _ => zt_rfl)) (if_neg hc)) ?_
      clear hc
      refine zH_pre (zr_2_1 i331_29 (zr_0 i331_30 kc_8 (zr_8 i331_31 ar_13 (zx_9_8) kt_8 rfl (zr_0 i331_32 kc_1 (zt_rfl))))) ?_
      by_cases h8 : ((S1 13 8) = 1)
      · refine zH_pre (zt_cast (zr_19_0 i331_33 (fun _ => zt_rfl) (fun _ => zt_rfl)) (if_pos h8)) ?_
        refine zH_pre (zr_0 i331_37 kc_1 (zr_17 i331_38 (zt_rfl))) ?_
        exact zH_ret (zr_26 i331_40 zo_1) ⟨rfl, jLaw_u (by omega) w1⟩
      · refine zH_pre (zt_cast (zr_19_0 i331_33 (fun _ => zt_rfl) (fun _ => zt_rfl)) (if_neg h8)) ?_
        have h6 : S 1 6 = 0 := (rSea_0 (jI_Sea w.1)).resolve_right (fun e => h8 (by rw [k13]; exact (jcx8 w.2.1).trans e))
        refine zH_pre (zr_1_8 i331_34 (zr_0 i331_35 kc_m2 (zt_rfl))) ?_
        have hc : (x = (-2)) := k2 h6
        refine zH_pre (zt_cast (zr_19_1 i331_36 (fun _ => zt_rfl) (fun _ => zt_rfl)) (if_pos hc)) ?_
        clear hc
        refine zH_pre (zr_0 i331_37 kc_1 (zr_17 i331_38 (zt_rfl))) ?_
        exact zH_ret (zr_26 i331_40 zo_1) ⟨rfl, jLaw_u (by omega) w1⟩
