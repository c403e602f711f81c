/-! the law: 25.06.people (wip/p57/gen) -/
theorem i336_14 : zi 336 14 15 1 2 0 := by decide +kernel
theorem i336_15 : zi 336 15 16 0 0 4 := by decide +kernel
theorem i336_16 : zi 336 16 17 13 3 0 := by decide +kernel
theorem i336_17 : zi 336 17 18 0 0 2 := by decide +kernel
theorem i336_18 : zi 336 18 19 13 4 0 := by decide +kernel
theorem i336_19 : zi 336 19 20 18 22 1 := by decide +kernel
theorem i336_20 : zi 336 20 21 0 0 1 := by decide +kernel
theorem i336_21 : zi 336 21 22 17 23 0 := by decide +kernel
theorem i336_23 : zi 336 23 24 3 5 0 := by decide +kernel
theorem i336_24 : zi 336 24 25 2 0 0 := by decide +kernel
theorem i336_25 : zi 336 25 26 1 4 0 := by decide +kernel
theorem i336_26 : zi 336 26 27 1 2 0 := by decide +kernel
theorem i336_27 : zi 336 27 28 0 0 8 := by decide +kernel
theorem i336_28 : zi 336 28 29 13 3 0 := by decide +kernel
theorem i336_29 : zi 336 29 30 0 0 2 := by decide +kernel
theorem i336_30 : zi 336 30 31 13 4 0 := by decide +kernel
theorem i336_31 : zi 336 31 32 18 34 1 := by decide +kernel
theorem i336_32 : zi 336 32 33 0 0 1 := by decide +kernel
theorem i336_33 : zi 336 33 34 17 35 0 := by decide +kernel
theorem i336_35 : zi 336 35 36 1 1 0 := by decide +kernel
theorem i336_36 : zi 336 36 37 0 0 64 := by decide +kernel
theorem i336_37 : zi 336 37 38 13 3 0 := by decide +kernel
theorem i336_38 : zi 336 38 39 0 0 4 := by decide +kernel
theorem i336_39 : zi 336 39 40 13 4 0 := by decide +kernel
theorem i336_40 : zi 336 40 41 1 5 0 := by decide +kernel
theorem i336_41 : zi 336 41 42 21 150 11 := by decide +kernel
theorem na_150 : z_na 150 = 4 := by decide +kernel
theorem i336_42 : zi 336 42 43 3 6 0 := by decide +kernel
theorem i336_43 : zi 336 43 44 2 0 0 := by decide +kernel
theorem i336_44 : zi 336 44 45 1 4 0 := by decide +kernel
theorem i336_45 : zi 336 45 46 1 2 0 := by decide +kernel
theorem i336_46 : zi 336 46 47 0 0 8 := by decide +kernel
theorem i336_47 : zi 336 47 48 13 3 0 := by decide +kernel
theorem i336_48 : zi 336 48 49 0 0 2 := by decide +kernel
theorem i336_49 : zi 336 49 50 13 4 0 := by decide +kernel
theorem i336_50 : zi 336 50 51 18 53 1 := by decide +kernel
theorem i336_51 : zi 336 51 52 0 0 1 := by decide +kernel
theorem i336_52 : zi 336 52 53 17 54 0 := by decide +kernel
theorem i336_54 : zi 336 54 55 1 1 0 := by decide +kernel
theorem i336_55 : zi 336 55 56 0 0 64 := by decide +kernel
theorem i336_56 : zi 336 56 57 13 3 0 := by decide +kernel
theorem i336_57 : zi 336 57 58 0 0 4 := by decide +kernel
theorem i336_58 : zi 336 58 59 13 4 0 := by decide +kernel
theorem i336_59 : zi 336 59 60 1 5 0 := by decide +kernel
theorem i336_60 : zi 336 60 61 21 150 11 := by decide +kernel
theorem i336_61 : zi 336 61 62 1 5 0 := by decide +kernel
theorem i336_62 : zi 336 62 63 19 88 1 := by decide +kernel
theorem i336_63 : zi 336 63 64 1 6 0 := by decide +kernel
theorem i336_64 : zi 336 64 65 18 86 1 := by decide +kernel
theorem i336_65 : zi 336 65 66 2 0 0 := by decide +kernel
theorem i336_66 : zi 336 66 67 1 4 0 := by decide +kernel
theorem i336_67 : zi 336 67 68 1 2 0 := by decide +kernel
theorem i336_68 : zi 336 68 69 0 0 8 := by decide +kernel
theorem i336_69 : zi 336 69 70 13 3 0 := by decide +kernel
theorem i336_70 : zi 336 70 71 0 0 2 := by decide +kernel
theorem i336_71 : zi 336 71 72 13 4 0 := by decide +kernel
theorem i336_72 : zi 336 72 73 18 75 1 := by decide +kernel
theorem i336_73 : zi 336 73 74 0 0 1 := by decide +kernel
theorem i336_74 : zi 336 74 75 17 76 0 := by decide +kernel
theorem i336_76 : zi 336 76 77 1 1 0 := by decide +kernel
theorem i336_77 : zi 336 77 78 0 0 64 := by decide +kernel
theorem i336_78 : zi 336 78 79 13 3 0 := by decide +kernel
theorem i336_79 : zi 336 79 80 0 0 4 := by decide +kernel
theorem i336_80 : zi 336 80 81 13 4 0 := by decide +kernel
theorem i336_81 : zi 336 81 82 1 6 0 := by decide +kernel
theorem i336_82 : zi 336 82 83 21 150 11 := by decide +kernel
theorem i336_83 : zi 336 83 84 18 86 0 := by decide +kernel
theorem i336_84 : zi 336 84 85 1 5 0 := by decide +kernel
theorem i336_85 : zi 336 85 86 18 88 0 := by decide +kernel
theorem i336_86 : zi 336 86 87 0 0 1 := by decide +kernel
theorem i336_87 : zi 336 87 88 17 89 0 := by decide +kernel
theorem i336_89 : zi 336 89 90 26 0 0 := by decide +kernel
theorem i336_34 : zi 336 34 35 0 0 0 := by decide +kernel
theorem i336_53 : zi 336 53 54 0 0 0 := by decide +kernel
theorem i336_75 : zi 336 75 76 0 0 0 := by decide +kernel
theorem i336_22 : zi 336 22 23 0 0 0 := by decide +kernel
theorem i336_90 : zi 336 90 91 2 0 0 := by decide +kernel
theorem i336_91 : zi 336 91 92 1 1 0 := by decide +kernel
theorem i336_92 : zi 336 92 93 0 0 64 := by decide +kernel
theorem i336_93 : zi 336 93 94 13 3 0 := by decide +kernel
theorem i336_94 : zi 336 94 95 0 0 3 := by decide +kernel
theorem i336_95 : zi 336 95 96 13 4 0 := by decide +kernel
theorem i336_96 : zi 336 96 97 1 2 0 := by decide +kernel
theorem i336_97 : zi 336 97 98 0 0 6 := by decide +kernel
theorem i336_98 : zi 336 98 99 13 4 0 := by decide +kernel
theorem i336_99 : zi 336 99 100 1 3 0 := by decide +kernel
theorem i336_100 : zi 336 100 101 21 148 11 := by decide +kernel
theorem na_148 : z_na 148 = 3 := by decide +kernel
theorem i336_101 : zi 336 101 102 3 7 0 := by decide +kernel
theorem i336_102 : zi 336 102 103 1 7 0 := by decide +kernel
theorem i336_103 : zi 336 103 104 0 0 (-1) := by decide +kernel
theorem i336_104 : zi 336 104 105 19 123 2 := by decide +kernel
theorem i336_105 : zi 336 105 106 1 7 0 := by decide +kernel
theorem i336_106 : zi 336 106 107 0 0 8 := by decide +kernel
theorem i336_107 : zi 336 107 108 19 123 3 := by decide +kernel
theorem i336_108 : zi 336 108 109 2 0 0 := by decide +kernel
theorem i336_109 : zi 336 109 110 1 1 0 := by decide +kernel
theorem i336_110 : zi 336 110 111 0 0 64 := by decide +kernel
theorem i336_111 : zi 336 111 112 13 3 0 := by decide +kernel
theorem i336_112 : zi 336 112 113 0 0 3 := by decide +kernel
theorem i336_113 : zi 336 113 114 13 4 0 := by decide +kernel
theorem i336_114 : zi 336 114 115 1 2 0 := by decide +kernel
theorem i336_115 : zi 336 115 116 0 0 6 := by decide +kernel
theorem i336_116 : zi 336 116 117 13 4 0 := by decide +kernel
theorem i336_117 : zi 336 117 118 1 3 0 := by decide +kernel
theorem i336_118 : zi 336 118 119 21 148 11 := by decide +kernel
theorem i336_119 : zi 336 119 120 1 3 0 := by decide +kernel
theorem i336_120 : zi 336 120 121 19 123 1 := by decide +kernel
theorem i336_121 : zi 336 121 122 0 0 1 := by decide +kernel
theorem i336_122 : zi 336 122 123 17 124 0 := by decide +kernel
theorem i336_124 : zi 336 124 125 26 0 0 := by decide +kernel
theorem i336_125 : zi 336 125 126 1 3 0 := by decide +kernel
theorem i336_126 : zi 336 126 127 0 0 1 := by decide +kernel
theorem i336_127 : zi 336 127 128 13 0 0 := by decide +kernel
theorem i336_128 : zi 336 128 129 1 2 0 := by decide +kernel
theorem i336_129 : zi 336 129 130 0 0 7 := by decide +kernel
theorem i336_130 : zi 336 130 131 13 4 0 := by decide +kernel
theorem i336_131 : zi 336 131 132 13 0 0 := by decide +kernel
theorem i336_132 : zi 336 132 133 0 0 8 := by decide +kernel
theorem i336_133 : zi 336 133 134 13 4 0 := by decide +kernel
theorem i336_134 : zi 336 134 135 3 8 0 := by decide +kernel
theorem i336_135 : zi 336 135 136 2 0 0 := by decide +kernel
theorem i336_136 : zi 336 136 137 1 3 0 := by decide +kernel
theorem i336_137 : zi 336 137 138 1 8 0 := by decide +kernel
theorem i336_138 : zi 336 138 139 21 149 11 := by decide +kernel
theorem na_149 : z_na 149 = 2 := by decide +kernel
theorem i336_139 : zi 336 139 140 3 9 0 := by decide +kernel
theorem i336_140 : zi 336 140 141 1 9 0 := by decide +kernel
theorem i336_141 : zi 336 141 142 18 152 2 := by decide +kernel
theorem i336_142 : zi 336 142 143 1 9 0 := by decide +kernel
theorem i336_143 : zi 336 143 144 0 0 18 := by decide +kernel
theorem kc_18 : Int32.ofInt 18 = 18 := by decide +kernel
theorem i336_144 : zi 336 144 145 19 152 4 := by decide +kernel
theorem i336_145 : zi 336 145 146 2 0 0 := by decide +kernel
theorem i336_146 : zi 336 146 147 1 3 0 := by decide +kernel
theorem i336_147 : zi 336 147 148 1 8 0 := by decide +kernel
theorem i336_148 : zi 336 148 149 21 149 11 := by decide +kernel
theorem i336_149 : zi 336 149 150 18 152 1 := by decide +kernel
theorem i336_150 : zi 336 150 151 0 0 1 := by decide +kernel
theorem i336_151 : zi 336 151 152 17 153 0 := by decide +kernel
theorem i336_153 : zi 336 153 154 26 0 0 := by decide +kernel
theorem i336_154 : zi 336 154 155 1 1 0 := by decide +kernel
theorem i336_155 : zi 336 155 156 0 0 32 := by decide +kernel
theorem kc_32 : Int32.ofInt 32 = 32 := by decide +kernel
theorem i336_156 : zi 336 156 157 13 3 0 := by decide +kernel
theorem nz_32 : ¬ (32 : Int32) = 0 := by decide
theorem i336_157 : zi 336 157 158 0 0 2 := by decide +kernel
theorem i336_158 : zi 336 158 159 13 4 0 := by decide +kernel
theorem i336_159 : zi 336 159 160 0 0 1 := by decide +kernel
theorem i336_160 : zi 336 160 161 13 0 0 := by decide +kernel
theorem i336_161 : zi 336 161 162 3 10 0 := by decide +kernel
theorem i336_162 : zi 336 162 163 1 10 0 := by decide +kernel
theorem i336_163 : zi 336 163 164 0 0 1 := by decide +kernel
theorem i336_164 : zi 336 164 165 19 167 1 := by decide +kernel
theorem i336_165 : zi 336 165 166 1 3 0 := by decide +kernel
theorem i336_166 : zi 336 166 167 17 168 0 := by decide +kernel
theorem i336_168 : zi 336 168 169 3 11 0 := by decide +kernel
theorem i336_169 : zi 336 169 170 2 0 0 := by decide +kernel
theorem i336_170 : zi 336 170 171 1 10 0 := by decide +kernel
theorem i336_171 : zi 336 171 172 1 11 0 := by decide +kernel
theorem i336_172 : zi 336 172 173 1 2 0 := by decide +kernel
theorem i336_173 : zi 336 173 174 0 0 4 := by decide +kernel
theorem i336_174 : zi 336 174 175 13 3 0 := by decide +kernel
theorem i336_175 : zi 336 175 176 0 0 256 := by decide +kernel
theorem i336_176 : zi 336 176 177 13 4 0 := by decide +kernel
theorem i336_177 : zi 336 177 178 21 147 11 := by decide +kernel
theorem na_147 : z_na 147 = 3 := by decide +kernel
theorem i336_178 : zi 336 178 179 3 12 0 := by decide +kernel
theorem i336_179 : zi 336 179 180 2 0 0 := by decide +kernel
theorem i336_180 : zi 336 180 181 1 10 0 := by decide +kernel
theorem i336_181 : zi 336 181 182 1 11 0 := by decide +kernel
theorem i336_182 : zi 336 182 183 1 12 0 := by decide +kernel
theorem i336_183 : zi 336 183 184 21 147 11 := by decide +kernel
theorem i336_184 : zi 336 184 185 1 2 0 := by decide +kernel
theorem i336_185 : zi 336 185 186 0 0 4 := by decide +kernel
theorem i336_186 : zi 336 186 187 13 3 0 := by decide +kernel
theorem i336_187 : zi 336 187 188 0 0 256 := by decide +kernel
theorem i336_188 : zi 336 188 189 13 4 0 := by decide +kernel
theorem i336_189 : zi 336 189 190 19 192 1 := by decide +kernel
theorem i336_190 : zi 336 190 191 0 0 1 := by decide +kernel
theorem i336_191 : zi 336 191 192 17 193 0 := by decide +kernel
theorem i336_193 : zi 336 193 194 26 0 0 := by decide +kernel
theorem i336_167 : zi 336 167 168 1 4 0 := by decide +kernel
theorem zlsb0 : ∀ i, i < 32 → (0 : Int32).toBitVec.getLsbD i = false := by decide
theorem zbe {x y : Int32} (h : ∀ i, i < 32 → x.toBitVec.getLsbD i = y.toBitVec.getLsbD i) : x = y := by
  apply Int32.toBitVec_inj.mp
  apply BitVec.eq_of_getLsbD_eq
  exact h
/-- a set of bits in another one -/
def zsu (X P : Int32) : Prop := X ||| P = P

theorem zsm8 : ∀ k, k < 8 → ((Int32.ofNat k &&& 31).toBitVec.smod 32).toNat = k := by decide +kernel
theorem zshl8 : ∀ k, k < 8 → ∀ i, i < 32 → (zshl 1 (Int32.ofNat k)).toBitVec.getLsbD i = decide (i = k) := by decide +kernel
/-- one bit of a shifted word -/
theorem jbit {x p : Int32} (hp : 0 ≤ p.toInt ∧ p.toInt ≤ 7) : (((zshr x p) &&& 1) = 1) ↔ x.toBitVec.getLsbD p.toNatClampNeg = true := by
  have hn := zk_nat hp.1
  have hk : p.toNatClampNeg < 8 := by omega
  have hpe := zk_of hp.1
  generalize p.toNatClampNeg = k at *
  subst hpe
  have k1 : ∀ i, i < 32 → (1 : Int32).toBitVec.getLsbD i = decide (i = 0) := by decide
  have e0 : (zshr x (Int32.ofNat k)).toBitVec.getLsbD 0 = x.toBitVec.getLsbD k := by
    unfold zshr
    rw [Int32.toBitVec_shiftRight, BitVec.getLsbD_sshiftRight', zsm8 k hk]
    have e : k < 32 := by omega
    simp [e]
  constructor
  · intro h
    have h1 : ((zshr x (Int32.ofNat k)) &&& 1).toBitVec.getLsbD 0 = (1 : Int32).toBitVec.getLsbD 0 := by rw [h]
    rw [Int32.toBitVec_and, BitVec.getLsbD_and, k1 0 (by decide), e0] at h1
    simpa using h1
  · intro h
    apply zbe
    intro i hi
    rw [Int32.toBitVec_and, BitVec.getLsbD_and, k1 i hi]
    by_cases h0 : i = 0
    · subst h0; rw [e0, h]; rfl
    · simp [h0]
/-- a bit that is set or taken away -/
theorem jbit2 {x p : Int32} (hp : 0 ≤ p.toInt ∧ p.toInt ≤ 7) : (((zshr (x ||| (zshl 1 p)) p) &&& 1) = 1) ∧ ¬ (((zshr (x &&& ((zshl 1 p) ^^^ (-1))) p) &&& 1) = 1) := by
  have hn := zk_nat hp.1
  have hpe := zk_of hp.1
  rw [jbit hp, jbit hp, Int32.toBitVec_or, BitVec.getLsbD_or, Int32.toBitVec_and, BitVec.getLsbD_and, Int32.toBitVec_xor, BitVec.getLsbD_xor]
  have m1 : ∀ i, i < 32 → (-1 : Int32).toBitVec.getLsbD i = true := by decide
  have e : (zshl 1 p).toBitVec.getLsbD p.toNatClampNeg = true := by
    have := zshl8 p.toNatClampNeg (by omega) p.toNatClampNeg (by omega)
    rw [hpe] at this
    rw [this]; simp
  rw [e, m1 _ (by omega)]
  simp
theorem jite81 : (if (1 : Int32) = 0 then (8 : Int32) else 4) = 4 := by decide
theorem jite80 : (if (0 : Int32) = 0 then (8 : Int32) else 4) = 8 := by decide
theorem jv150 {n : Nat} {S : zS} (w : jLaw n S) (a b c d : Int32) (hc : 0 ≤ c.toInt ∧ c.toInt ≤ 7) : jLaw n (B150 a b c d S) ∧ ∀ e, A150 a b c e (B150 a b c d S) = if d = 0 then 0 else 1 := by
  have hp := p_B150 a b c d S
  refine ⟨⟨jq150 w.1 a b c d, jCx_k rfl hp w.2.1, jE_k rfl rfl hp w.2.2⟩, fun e => ?_⟩
  unfold A150 B150
  by_cases hb : b = 0
  · simp only [if_pos hb, zup_s]
    by_cases hd : d = 0
    · simp only [if_pos hd]; exact (zb_0 _).mpr (jbit2 hc).2
    · simp only [if_neg hd]; exact (zb_1 _).mpr (jbit2 hc).1
  · simp only [if_neg hb, zup_s]
    by_cases hd : d = 0
    · simp only [if_pos hd]; exact (zb_0 _).mpr (jbit2 hc).2
    · simp only [if_neg hd]; exact (zb_1 _).mpr (jbit2 hc).1
theorem jv148 {n : Nat} {S : zS} (w : jLaw n S) {a b c : Int32} (ha : 0 ≤ a.toInt ∧ a.toInt < 3) (hb : 0 ≤ b.toInt ∧ b.toInt < 6) (hc : -1 ≤ c.toInt ∧ c.toInt ≤ 7) : jLaw n (B148 a b c S) ∧ A148 a b c (B148 a b c S) = c ∧ -1 ≤ (A148 a b c S).toInt ∧ (A148 a b c S).toInt ≤ 7 := by
  have hp := p_B148 a b c S
  obtain ⟨h1, h2⟩ := jq148 w.1 a b hc
  have hx := zx_iff.mp (jx18 ha hb)
  have := zk_nat hx.1
  exact ⟨⟨h1, jCx_k rfl hp w.2.1, jE_k rfl rfl hp w.2.2⟩, h2, (rPpl_0 (jI_Ppl w.1)) _ (by omega)⟩
theorem jv149 {n : Nat} {S : zS} (w : jLaw n S) {a b : Int32} (hb : 0 ≤ b.toInt ∧ b.toInt ≤ 7) (hab : ¬ a = b) : jLaw n (B149 a b S) ∧ 0 ≤ (A149 a b S).toInt ∧ (A149 a b S).toInt ≤ 18 ∧ A149 a b (B149 a b S) = 0 := by
  have hp := p_B149 a b S
  obtain ⟨h1, h2⟩ := jq149 w.1 hb hab
  exact ⟨⟨h1, jCx_k rfl hp w.2.1, jE_k rfl rfl hp w.2.2⟩, h2⟩
theorem jv147 {n : Nat} {S : zS} (w : jLaw n S) {a b c : Int32} (hab : (a = 1 ∧ zx 8 b) ∨ (a = 2 ∧ zx 4 b)) (hc : zn 255 c) : jLaw n (B147 a b c S) ∧ zn 255 (A147 a b c S) ∧ ∀ d, A147 a b d (B147 a b c S) = c := by
  have hp := p_B147 a b c S
  have h1 := jq147 w.1 a b hc
  refine ⟨⟨h1, jCx_k rfl hp w.2.1, jE_k rfl rfl hp w.2.2⟩, ?_, fun d => ?_⟩
  · unfold A147
    rcases hab with ⟨rfl, hb⟩ | ⟨rfl, hb⟩
    · rw [if_neg (by decide), if_pos rfl]; rw [zx_iff] at hb; have := zk_nat hb.1; exact (rPpl_1 (jI_Ppl w.1)) _ (by omega)
    · rw [if_neg (by decide), if_neg (by decide)]; rw [zx_iff] at hb; have := zk_nat hb.1; exact (rPpl_2 (jI_Ppl w.1)) _ (by omega)
  · unfold A147 B147
    rcases hab with ⟨rfl, hb⟩ | ⟨rfl, hb⟩
    · rw [if_neg (by decide), if_pos rfl, if_neg (by decide), if_pos rfl]; exact zup_s _ _ _ _
    · rw [if_neg (by decide), if_neg (by decide), if_neg (by decide), if_neg (by decide)]; exact zup_s _ _ _ _

set_option maxRecDepth 100000 in
theorem q336c0 {L : Nat} (a b p g : Int32) {S : zS} {n : Nat} (hn : n < 480) (w : jLaw n S) (ha : 0 ≤ a.toInt) (hb : 0 ≤ b.toInt) (hp : 0 ≤ p.toInt ∧ p.toInt < 8) (hg : 0 ≤ g.toInt ∧ g.toInt < 4) : zH L 336 (14, [some (.inr (.inr 0)), some (.inl a), some (.inl b), some (.inl p), some (.inl g), none, none, none, none, none, none, none, none], [], S) (jQ (fun S' => jLaw (n + 6) S')) := by
  have hm := jrem (x := a / 64) (y := 4) (jdv ha (by decide)).1 (by decide)
  rw [jk_4] at hm
  refine zH_pre (zr_1_2 i336_14 (zr_0 i336_15 kc_4 (zr_13_3 i336_16 nz_4 (zr_0 i336_17 kc_2 (zr_13_4 i336_18 nz_2 (zt_rfl)))))) ?_
  by_cases h4 : ((zrem (b / 4) 2) = 0)
  · refine zH_pre (zt_cast (zr_18_1 i336_19 (fun _ => zt_rfl) (fun _ => zt_rfl)) (if_pos h4)) ?_
    refine zH_pre (zr_0 i336_20 kc_1 (zr_17 i336_21 (zr_3_5 i336_23 (zr_2_0 i336_24 (zr_1_4 i336_25 (zr_1_2 i336_26 (zr_0 i336_27 kc_8 (zr_13_3 i336_28 nz_8 (zr_0 i336_29 kc_2 (zr_13_4 i336_30 nz_2 (zt_rfl))))))))))) ?_
    by_cases h8 : ((zrem (b / 8) 2) = 0)
    · refine zH_pre (zt_cast (zr_18_1 i336_31 (fun _ => zt_rfl) (fun _ => zt_rfl)) (if_pos h8)) ?_
      refine zH_pre (zr_0 i336_32 kc_1 (zr_17 i336_33 (zr_1_1 i336_35 (zr_0 i336_36 kc_64 (zr_13_3 i336_37 nz_64 (zr_0 i336_38 kc_4 (zr_13_4 i336_39 nz_4 (zr_1_5 i336_40 (zt_rfl))))))))) ?_
      have hP : jP150 g 1 (zrem (a / 64) 4) 1 S := ⟨jI_n (by omega) w.1, (by rw [jite81]; simp only [zk_lt, zk_le, zk_1, jk_0, jk_2, jk_3, jk_4, jk_5, jk_6, jk_7, jk_8, jk_10, jk_11, jk_13, jk_14, jk_15, jk_16, jk_18, jk_20, jk_24, jk_25, jk_36, jk_40, jk_50, jk_64, jk_72, jk_100, jk_120, jk_200, jk_201, jk_216, jk_255, jk_256, jk_257, jk_512, jk_1000, jk_2048, jk_9999, jk_10000, jk_65521, jk_65536, jk_104729, jk_2147483647, jk_m1, jk_m2, jk_m3, jk_m4, jk_m5, jk_m6, jk_m7, jk_m8, jk_m9, jk_m10, jk_m11, jk_m12, jk_m13, jk_m14]; omega)⟩
      refine zH_call (zs_21_4 i336_41 na_150 ob_0 rfl) (y150 g 1 (zrem (a / 64) 4) 1 S hP) ?_
      have f := jv150 w g 1 (zrem (a / 64) 4) 1 (by omega)
      generalize (B150 g 1 (zrem (a / 64) 4) 1 S) = S1 at f ⊢
      generalize (A150 g 1 (zrem (a / 64) 4) 1 S) = wa at f ⊢
      obtain ⟨w1, h1⟩ := f
      refine zH_pre (zr_3_6 i336_42 (zr_2_0 i336_43 (zr_1_4 i336_44 (zr_1_2 i336_45 (zr_0 i336_46 kc_8 (zr_13_3 i336_47 nz_8 (zr_0 i336_48 kc_2 (zr_13_4 i336_49 nz_2 (zt_rfl))))))))) ?_
      have hc : ((zrem (b / 8) 2) = 0) := h8
      refine zH_pre (zt_cast (zr_18_1 i336_50 (fun _ => zt_rfl) (fun _ => zt_rfl)) (if_pos hc)) ?_
      clear hc
      refine zH_pre (zr_0 i336_51 kc_1 (zr_17 i336_52 (zr_1_1 i336_54 (zr_0 i336_55 kc_64 (zr_13_3 i336_56 nz_64 (zr_0 i336_57 kc_4 (zr_13_4 i336_58 nz_4 (zr_1_5 i336_59 (zt_rfl))))))))) ?_
      have hP : jP150 g 1 (zrem (a / 64) 4) 1 S1 := ⟨jI_n (by omega) w1.1, (by rw [jite81]; simp only [zk_lt, zk_le, zk_1, jk_0, jk_2, jk_3, jk_4, jk_5, jk_6, jk_7, jk_8, jk_10, jk_11, jk_13, jk_14, jk_15, jk_16, jk_18, jk_20, jk_24, jk_25, jk_36, jk_40, jk_50, jk_64, jk_72, jk_100, jk_120, jk_200, jk_201, jk_216, jk_255, jk_256, jk_257, jk_512, jk_1000, jk_2048, jk_9999, jk_10000, jk_65521, jk_65536, jk_104729, jk_2147483647, jk_m1, jk_m2, jk_m3, jk_m4, jk_m5, jk_m6, jk_m7, jk_m8, jk_m9, jk_m10, jk_m11, jk_m12, jk_m13, jk_m14]; omega)⟩
      refine zH_call (zs_21_4 i336_60 na_150 ob_0 rfl) (y150 g 1 (zrem (a / 64) 4) 1 S1 hP) ?_
      have f := (show jLaw n (B150 g 1 (zrem (a / 64) 4) 1 S1) ∧ (A150 g 1 (zrem (a / 64) 4) 1 S1) = 1 ∧ ∀ e, A150 g 1 (zrem (a / 64) 4) e (B150 g 1 (zrem (a / 64) 4) 1 S1) = 1 from ⟨(jv150 w1 g 1 (zrem (a / 64) 4) 1 (by omega)).1, (h1 _).trans (by decide), fun e => ((jv150 w1 g 1 (zrem (a / 64) 4) 1 (by omega)).2 e).trans (by decide)⟩)
      generalize (B150 g 1 (zrem (a / 64) 4) 1 S1) = S2 at f ⊢
      generalize (A150 g 1 (zrem (a / 64) 4) 1 S1) = r at f ⊢
      obtain ⟨w2, h2, h3⟩ := f
      refine zH_pre (zr_1_5 i336_61 (zt_rfl)) ?_
      have hc : (r = 1) := h2
      refine zH_pre (zt_cast (zr_19_1 i336_62 (fun _ => zt_rfl) (fun _ => zt_rfl)) (if_pos hc)) ?_
      clear hc
      refine zH_pre (zr_1_6 i336_63 (zt_rfl)) ?_
      by_cases hw : (wa = 0)
      · refine zH_pre (zt_cast (zr_18_1 i336_64 (fun _ => zt_rfl) (fun _ => zt_rfl)) (if_pos hw)) ?_
        refine zH_pre (zr_2_0 i336_65 (zr_1_4 i336_66 (zr_1_2 i336_67 (zr_0 i336_68 kc_8 (zr_13_3 i336_69 nz_8 (zr_0 i336_70 kc_2 (zr_13_4 i336_71 nz_2 (zt_rfl)))))))) ?_
        have hc : ((zrem (b / 8) 2) = 0) := h8
        refine zH_pre (zt_cast (zr_18_1 i336_72 (fun _ => zt_rfl) (fun _ => zt_rfl)) (if_pos hc)) ?_
        clear hc
        refine zH_pre (zr_0 i336_73 kc_1 (zr_17 i336_74 (zr_1_1 i336_76 (zr_0 i336_77 kc_64 (zr_13_3 i336_78 nz_64 (zr_0 i336_79 kc_4 (zr_13_4 i336_80 nz_4 (zr_1_6 i336_81 (zt_rfl))))))))) ?_
        have hP : jP150 g 1 (zrem (a / 64) 4) wa S2 := ⟨jI_n (by omega) w2.1, (by rw [jite81]; simp only [zk_lt, zk_le, zk_1, jk_0, jk_2, jk_3, jk_4, jk_5, jk_6, jk_7, jk_8, jk_10, jk_11, jk_13, jk_14, jk_15, jk_16, jk_18, jk_20, jk_24, jk_25, jk_36, jk_40, jk_50, jk_64, jk_72, jk_100, jk_120, jk_200, jk_201, jk_216, jk_255, jk_256, jk_257, jk_512, jk_1000, jk_2048, jk_9999, jk_10000, jk_65521, jk_65536, jk_104729, jk_2147483647, jk_m1, jk_m2, jk_m3, jk_m4, jk_m5, jk_m6, jk_m7, jk_m8, jk_m9, jk_m10, jk_m11, jk_m12, jk_m13, jk_m14]; omega)⟩
        refine zH_call (zs_21_4 i336_82 na_150 ob_0 rfl) (y150 g 1 (zrem (a / 64) 4) wa S2 hP) ?_
        have f := (show jLaw n (B150 g 1 (zrem (a / 64) 4) wa S2) ∧ (A150 g 1 (zrem (a / 64) 4) wa S2) = 1 from ⟨(jv150 w2 g 1 (zrem (a / 64) 4) wa (by omega)).1, h3 _⟩)
        generalize (B150 g 1 (zrem (a / 64) 4) wa S2) = S3 at f ⊢
        generalize (A150 g 1 (zrem (a / 64) 4) wa S2) = r3 at f ⊢
        obtain ⟨w3, h4⟩ := f
        have hc : ¬ (r3 = 0) := by rw [h4]; decide
        refine zH_pre (zt_cast (zr_18_0 i336_83 (fun _ => zt_rfl) (fun _ => zt_rfl)) (if_neg hc)) ?_
        clear hc
        refine zH_pre (zr_1_5 i336_84 (zt_rfl)) ?_
        refine zH_pre (zr_18f_0 i336_85 (by decide) zt_rfl) ?_
        refine zH_pre (zr_0 i336_86 kc_1 (zr_17 i336_87 (zt_rfl))) ?_
        exact zH_ret (zr_26 i336_89 zo_1) ⟨rfl, jLaw_u (by omega) w3⟩
      · refine zH_pre (zt_cast (zr_18_1 i336_64 (fun _ => zt_rfl) (fun _ => zt_rfl)) (if_neg hw)) ?_
        refine zH_pre (zr_0 i336_86 kc_1 (zr_17 i336_87 (zt_rfl))) ?_
        exact zH_ret (zr_26 i336_89 zo_1) ⟨rfl, jLaw_u (by omega) w2⟩
    · refine zH_pre (zt_cast (zr_18_1 i336_31 (fun _ => zt_rfl) (fun _ => zt_rfl)) (if_neg h8)) ?_
      refine zH_pre (zr_0 i336_34 kc_0 (zr_1_1 i336_35 (zr_0 i336_36 kc_64 (zr_13_3 i336_37 nz_64 (zr_0 i336_38 kc_4 (zr_13_4 i336_39 nz_4 (zr_1_5 i336_40 (zt_rfl)))))))) ?_
      have hP : jP150 g 0 (zrem (a / 64) 4) 1 S := ⟨jI_n (by omega) w.1, (by rw [jite80]; simp only [zk_lt, zk_le, zk_1, jk_0, jk_2, jk_3, jk_4, jk_5, jk_6, jk_7, jk_8, jk_10, jk_11, jk_13, jk_14, jk_15, jk_16, jk_18, jk_20, jk_24, jk_25, jk_36, jk_40, jk_50, jk_64, jk_72, jk_100, jk_120, jk_200, jk_201, jk_216, jk_255, jk_256, jk_257, jk_512, jk_1000, jk_2048, jk_9999, jk_10000, jk_65521, jk_65536, jk_104729, jk_2147483647, jk_m1, jk_m2, jk_m3, jk_m4, jk_m5, jk_m6, jk_m7, jk_m8, jk_m9, jk_m10, jk_m11, jk_m12, jk_m13, jk_m14]; omega)⟩
      refine zH_call (zs_21_4 i336_41 na_150 ob_0 rfl) (y150 g 0 (zrem (a / 64) 4) 1 S hP) ?_
      have f := jv150 w g 0 (zrem (a / 64) 4) 1 (by omega)
      generalize (B150 g 0 (zrem (a / 64) 4) 1 S) = S1 at f ⊢
      generalize (A150 g 0 (zrem (a / 64) 4) 1 S) = wa at f ⊢
      obtain ⟨w1, h1⟩ := f
      refine zH_pre (zr_3_6 i336_42 (zr_2_0 i336_43 (zr_1_4 i336_44 (zr_1_2 i336_45 (zr_0 i336_46 kc_8 (zr_13_3 i336_47 nz_8 (zr_0 i336_48 kc_2 (zr_13_4 i336_49 nz_2 (zt_rfl))))))))) ?_
      have hc : ¬ ((zrem (b / 8) 2) = 0) := h8
      refine zH_pre (zt_cast (zr_18_1 i336_50 (fun _ => zt_rfl) (fun _ => zt_rfl)) (if_neg hc)) ?_
      clear hc
      refine zH_pre (zr_0 i336_53 kc_0 (zr_1_1 i336_54 (zr_0 i336_55 kc_64 (zr_13_3 i336_56 nz_64 (zr_0 i336_57 kc_4 (zr_13_4 i336_58 nz_4 (zr_1_5 i336_59 (zt_rfl)))))))) ?_
      have hP : jP150 g 0 (zrem (a / 64) 4) 1 S1 := ⟨jI_n (by omega) w1.1, (by rw [jite80]; simp only [zk_lt, zk_le, zk_1, jk_0, jk_2, jk_3, jk_4, jk_5, jk_6, jk_7, jk_8, jk_10, jk_11, jk_13, jk_14, jk_15, jk_16, jk_18, jk_20, jk_24, jk_25, jk_36, jk_40, jk_50, jk_64, jk_72, jk_100, jk_120, jk_200, jk_201, jk_216, jk_255, jk_256, jk_257, jk_512, jk_1000, jk_2048, jk_9999, jk_10000, jk_65521, jk_65536, jk_104729, jk_2147483647, jk_m1, jk_m2, jk_m3, jk_m4, jk_m5, jk_m6, jk_m7, jk_m8, jk_m9, jk_m10, jk_m11, jk_m12, jk_m13, jk_m14]; omega)⟩
      refine zH_call (zs_21_4 i336_60 na_150 ob_0 rfl) (y150 g 0 (zrem (a / 64) 4) 1 S1 hP) ?_
      have f := (show jLaw n (B150 g 0 (zrem (a / 64) 4) 1 S1) ∧ (A150 g 0 (zrem (a / 64) 4) 1 S1) = 1 ∧ ∀ e, A150 g 0 (zrem (a / 64) 4) e (B150 g 0 (zrem (a / 64) 4) 1 S1) = 1 from ⟨(jv150 w1 g 0 (zrem (a / 64) 4) 1 (by omega)).1, (h1 _).trans (by decide), fun e => ((jv150 w1 g 0 (zrem (a / 64) 4) 1 (by omega)).2 e).trans (by decide)⟩)
      generalize (B150 g 0 (zrem (a / 64) 4) 1 S1) = S2 at f ⊢
      generalize (A150 g 0 (zrem (a / 64) 4) 1 S1) = r at f ⊢
      obtain ⟨w2, h2, h3⟩ := f
      refine zH_pre (zr_1_5 i336_61 (zt_rfl)) ?_
      have hc : (r = 1) := h2
      refine zH_pre (zt_cast (zr_19_1 i336_62 (fun _ => zt_rfl) (fun _ => zt_rfl)) (if_pos hc)) ?_
      clear hc
      refine zH_pre (zr_1_6 i336_63 (zt_rfl)) ?_
      by_cases hw : (wa = 0)
      · refine zH_pre (zt_cast (zr_18_1 i336_64 (fun _ => zt_rfl) (fun _ => zt_rfl)) (if_pos hw)) ?_
        refine zH_pre (zr_2_0 i336_65 (zr_1_4 i336_66 (zr_1_2 i336_67 (zr_0 i336_68 kc_8 (zr_13_3 i336_69 nz_8 (zr_0 i336_70 kc_2 (zr_13_4 i336_71 nz_2 (zt_rfl)))))))) ?_
        have hc : ¬ ((zrem (b / 8) 2) = 0) := h8
        refine zH_pre (zt_cast (zr_18_1 i336_72 (fun _ => zt_rfl) (fun _ => zt_rfl)) (if_neg hc)) ?_
        clear hc
        refine zH_pre (zr_0 i336_75 kc_0 (zr_1_1 i336_76 (zr_0 i336_77 kc_64 (zr_13_3 i336_78 nz_64 (zr_0 i336_79 kc_4 (zr_13_4 i336_80 nz_4 (zr_1_6 i336_81 (zt_rfl)))))))) ?_
        have hP : jP150 g 0 (zrem (a / 64) 4) wa S2 := ⟨jI_n (by omega) w2.1, (by rw [jite80]; simp only [zk_lt, zk_le, zk_1, jk_0, jk_2, jk_3, jk_4, jk_5, jk_6, jk_7, jk_8, jk_10, jk_11, jk_13, jk_14, jk_15, jk_16, jk_18, jk_20, jk_24, jk_25, jk_36, jk_40, jk_50, jk_64, jk_72, jk_100, jk_120, jk_200, jk_201, jk_216, jk_255, jk_256, jk_257, jk_512, jk_1000, jk_2048, jk_9999, jk_10000, jk_65521, jk_65536, jk_104729, jk_2147483647, jk_m1, jk_m2, jk_m3, jk_m4, jk_m5, jk_m6, jk_m7, jk_m8, jk_m9, jk_m10, jk_m11, jk_m12, jk_m13, jk_m14]; omega)⟩
        refine zH_call (zs_21_4 i336_82 na_150 ob_0 rfl) (y150 g 0 (zrem (a / 64) 4) wa S2 hP) ?_
        have f := (show jLaw n (B150 g 0 (zrem (a / 64) 4) wa S2) ∧ (A150 g 0 (zrem (a / 64) 4) wa S2) = 1 from ⟨(jv150 w2 g 0 (zrem (a / 64) 4) wa (by omega)).1, h3 _⟩)
        generalize (B150 g 0 (zrem (a / 64) 4) wa S2) = S3 at f ⊢
        generalize (A150 g 0 (zrem (a / 64) 4) wa S2) = r3 at f ⊢
        obtain ⟨w3, h4⟩ := f
        have hc : ¬ (r3 = 0) := by rw [h4]; decide
        refine zH_pre (zt_cast (zr_18_0 i336_83 (fun _ => zt_rfl) (fun _ => zt_rfl)) (if_neg hc)) ?_
        clear hc
        refine zH_pre (zr_1_5 i336_84 (zt_rfl)) ?_
        refine zH_pre (zr_18f_0 i336_85 (by decide) zt_rfl) ?_
        refine zH_pre (zr_0 i336_86 kc_1 (zr_17 i336_87 (zt_rfl))) ?_
        exact zH_ret (zr_26 i336_89 zo_1) ⟨rfl, jLaw_u (by omega) w3⟩
      · refine zH_pre (zt_cast (zr_18_1 i336_64 (fun _ => zt_rfl) (fun _ => zt_rfl)) (if_neg hw)) ?_
        refine zH_pre (zr_0 i336_86 kc_1 (zr_17 i336_87 (zt_rfl))) ?_
        exact zH_ret (zr_26 i336_89 zo_1) ⟨rfl, jLaw_u (by omega) w2⟩
  · refine zH_pre (zt_cast (zr_18_1 i336_19 (fun _ => zt_rfl) (fun _ => zt_rfl)) (if_neg h4)) ?_
    refine zH_pre (zr_0 i336_22 kc_0 (zr_3_5 i336_23 (zr_2_0 i336_24 (zr_1_4 i336_25 (zr_1_2 i336_26 (zr_0 i336_27 kc_8 (zr_13_3 i336_28 nz_8 (zr_0 i336_29 kc_2 (zr_13_4 i336_30 nz_2 (zt_rfl)))))))))) ?_
    by_cases h8 : ((zrem (b / 8) 2) = 0)
    · refine zH_pre (zt_cast (zr_18_1 i336_31 (fun _ => zt_rfl) (fun _ => zt_rfl)) (if_pos h8)) ?_
      refine zH_pre (zr_0 i336_32 kc_1 (zr_17 i336_33 (zr_1_1 i336_35 (zr_0 i336_36 kc_64 (zr_13_3 i336_37 nz_64 (zr_0 i336_38 kc_4 (zr_13_4 i336_39 nz_4 (zr_1_5 i336_40 (zt_rfl))))))))) ?_
      have hP : jP150 g 1 (zrem (a / 64) 4) 0 S := ⟨jI_n (by omega) w.1, (by rw [jite81]; simp only [zk_lt, zk_le, zk_1, jk_0, jk_2, jk_3, jk_4, jk_5, jk_6, jk_7, jk_8, jk_10, jk_11, jk_13, jk_14, jk_15, jk_16, jk_18, jk_20, jk_24, jk_25, jk_36, jk_40, jk_50, jk_64, jk_72, jk_100, jk_120, jk_200, jk_201, jk_216, jk_255, jk_256, jk_257, jk_512, jk_1000, jk_2048, jk_9999, jk_10000, jk_65521, jk_65536, jk_104729, jk_2147483647, jk_m1, jk_m2, jk_m3, jk_m4, jk_m5, jk_m6, jk_m7, jk_m8, jk_m9, jk_m10, jk_m11, jk_m12, jk_m13, jk_m14]; omega)⟩
      refine zH_call (zs_21_4 i336_41 na_150 ob_0 rfl) (y150 g 1 (zrem (a / 64) 4) 0 S hP) ?_
      have f := jv150 w g 1 (zrem (a / 64) 4) 0 (by omega)
      generalize (B150 g 1 (zrem (a / 64) 4) 0 S) = S1 at f ⊢
      generalize (A150 g 1 (zrem (a / 64) 4) 0 S) = wa at f ⊢
      obtain ⟨w1, h1⟩ := f
      refine zH_pre (zr_3_6 i336_42 (zr_2_0 i336_43 (zr_1_4 i336_44 (zr_1_2 i336_45 (zr_0 i336_46 kc_8 (zr_13_3 i336_47 nz_8 (zr_0 i336_48 kc_2 (zr_13_4 i336_49 nz_2 (zt_rfl))))))))) ?_
      have hc : ((zrem (b / 8) 2) = 0) := h8
      refine zH_pre (zt_cast (zr_18_1 i336_50 (fun _ => zt_rfl) (fun _ => zt_rfl)) (if_pos hc)) ?_
      clear hc
      refine zH_pre (zr_0 i336_51 kc_1 (zr_17 i336_52 (zr_1_1 i336_54 (zr_0 i336_55 kc_64 (zr_13_3 i336_56 nz_64 (zr_0 i336_57 kc_4 (zr_13_4 i336_58 nz_4 (zr_1_5 i336_59 (zt_rfl))))))))) ?_
      have hP : jP150 g 1 (zrem (a / 64) 4) 0 S1 := ⟨jI_n (by omega) w1.1, (by rw [jite81]; simp only [zk_lt, zk_le, zk_1, jk_0, jk_2, jk_3, jk_4, jk_5, jk_6, jk_7, jk_8, jk_10, jk_11, jk_13, jk_14, jk_15, jk_16, jk_18, jk_20, jk_24, jk_25, jk_36, jk_40, jk_50, jk_64, jk_72, jk_100, jk_120, jk_200, jk_201, jk_216, jk_255, jk_256, jk_257, jk_512, jk_1000, jk_2048, jk_9999, jk_10000, jk_65521, jk_65536, jk_104729, jk_2147483647, jk_m1, jk_m2, jk_m3, jk_m4, jk_m5, jk_m6, jk_m7, jk_m8, jk_m9, jk_m10, jk_m11, jk_m12, jk_m13, jk_m14]; omega)⟩
      refine zH_call (zs_21_4 i336_60 na_150 ob_0 rfl) (y150 g 1 (zrem (a / 64) 4) 0 S1 hP) ?_
      have f := (show jLaw n (B150 g 1 (zrem (a / 64) 4) 0 S1) ∧ (A150 g 1 (zrem (a / 64) 4) 0 S1) = 0 ∧ ∀ e, A150 g 1 (zrem (a / 64) 4) e (B150 g 1 (zrem (a / 64) 4) 0 S1) = 0 from ⟨(jv150 w1 g 1 (zrem (a / 64) 4) 0 (by omega)).1, (h1 _).trans (by decide), fun e => ((jv150 w1 g 1 (zrem (a / 64) 4) 0 (by omega)).2 e).trans (by decide)⟩)
      generalize (B150 g 1 (zrem (a / 64) 4) 0 S1) = S2 at f ⊢
      generalize (A150 g 1 (zrem (a / 64) 4) 0 S1) = r at f ⊢
      obtain ⟨w2, h2, h3⟩ := f
      refine zH_pre (zr_1_5 i336_61 (zt_rfl)) ?_
      have hc : (r = 0) := h2
      refine zH_pre (zt_cast (zr_19_1 i336_62 (fun _ => zt_rfl) (fun _ => zt_rfl)) (if_pos hc)) ?_
      clear hc
      refine zH_pre (zr_1_6 i336_63 (zt_rfl)) ?_
      by_cases hw : (wa = 0)
      · refine zH_pre (zt_cast (zr_18_1 i336_64 (fun _ => zt_rfl) (fun _ => zt_rfl)) (if_pos hw)) ?_
        refine zH_pre (zr_2_0 i336_65 (zr_1_4 i336_66 (zr_1_2 i336_67 (zr_0 i336_68 kc_8 (zr_13_3 i336_69 nz_8 (zr_0 i336_70 kc_2 (zr_13_4 i336_71 nz_2 (zt_rfl)))))))) ?_
        have hc : ((zrem (b / 8) 2) = 0) := h8
        refine zH_pre (zt_cast (zr_18_1 i336_72 (fun _ => zt_rfl) (fun _ => zt_rfl)) (if_pos hc)) ?_
        clear hc
        refine zH_pre (zr_0 i336_73 kc_1 (zr_17 i336_74 (zr_1_1 i336_76 (zr_0 i336_77 kc_64 (zr_13_3 i336_78 nz_64 (zr_0 i336_79 kc_4 (zr_13_4 i336_80 nz_4 (zr_1_6 i336_81 (zt_rfl))))))))) ?_
        have hP : jP150 g 1 (zrem (a / 64) 4) wa S2 := ⟨jI_n (by omega) w2.1, (by rw [jite81]; simp only [zk_lt, zk_le, zk_1, jk_0, jk_2, jk_3, jk_4, jk_5, jk_6, jk_7, jk_8, jk_10, jk_11, jk_13, jk_14, jk_15, jk_16, jk_18, jk_20, jk_24, jk_25, jk_36, jk_40, jk_50, jk_64, jk_72, jk_100, jk_120, jk_200, jk_201, jk_216, jk_255, jk_256, jk_257, jk_512, jk_1000, jk_2048, jk_9999, jk_10000, jk_65521, jk_65536, jk_104729, jk_2147483647, jk_m1, jk_m2, jk_m3, jk_m4, jk_m5, jk_m6, jk_m7, jk_m8, jk_m9, jk_m10, jk_m11, jk_m12, jk_m13, jk_m14]; omega)⟩
        refine zH_call (zs_21_4 i336_82 na_150 ob_0 rfl) (y150 g 1 (zrem (a / 64) 4) wa S2 hP) ?_
        have f := (show jLaw n (B150 g 1 (zrem (a / 64) 4) wa S2) ∧ (A150 g 1 (zrem (a / 64) 4) wa S2) = 0 from ⟨(jv150 w2 g 1 (zrem (a / 64) 4) wa (by omega)).1, h3 _⟩)
        generalize (B150 g 1 (zrem (a / 64) 4) wa S2) = S3 at f ⊢
        generalize (A150 g 1 (zrem (a / 64) 4) wa S2) = r3 at f ⊢
        obtain ⟨w3, h4⟩ := f
        have hc : (r3 = 0) := h4
        refine zH_pre (zt_cast (zr_18_0 i336_83 (fun _ => zt_rfl) (fun _ => zt_rfl)) (if_pos hc)) ?_
        clear hc
        refine zH_pre (zr_0 i336_86 kc_1 (zr_17 i336_87 (zt_rfl))) ?_
        exact zH_ret (zr_26 i336_89 zo_1) ⟨rfl, jLaw_u (by omega) w3⟩
      · refine zH_pre (zt_cast (zr_18_1 i336_64 (fun _ => zt_rfl) (fun _ => zt_rfl)) (if_neg hw)) ?_
        refine zH_pre (zr_0 i336_86 kc_1 (zr_17 i336_87 (zt_rfl))) ?_
        exact zH_ret (zr_26 i336_89 zo_1) ⟨rfl, jLaw_u (by omega) w2⟩
    · refine zH_pre (zt_cast (zr_18_1 i336_31 (fun _ => zt_rfl) (fun _ => zt_rfl)) (if_neg h8)) ?_
      refine zH_pre (zr_0 i336_34 kc_0 (zr_1_1 i336_35 (zr_0 i336_36 kc_64 (zr_13_3 i336_37 nz_64 (zr_0 i336_38 kc_4 (zr_13_4 i336_39 nz_4 (zr_1_5 i336_40 (zt_rfl)))))))) ?_
      have hP : jP150 g 0 (zrem (a / 64) 4) 0 S := ⟨jI_n (by omega) w.1, (by rw [jite80]; simp only [zk_lt, zk_le, zk_1, jk_0, jk_2, jk_3, jk_4, jk_5, jk_6, jk_7, jk_8, jk_10, jk_11, jk_13, jk_14, jk_15, jk_16, jk_18, jk_20, jk_24, jk_25, jk_36, jk_40, jk_50, jk_64, jk_72, jk_100, jk_120, jk_200, jk_201, jk_216, jk_255, jk_256, jk_257, jk_512, jk_1000, jk_2048, jk_9999, jk_10000, jk_65521, jk_65536, jk_104729, jk_2147483647, jk_m1, jk_m2, jk_m3, jk_m4, jk_m5, jk_m6, jk_m7, jk_m8, jk_m9, jk_m10, jk_m11, jk_m12, jk_m13, jk_m14]; omega)⟩
      refine zH_call (zs_21_4 i336_41 na_150 ob_0 rfl) (y150 g 0 (zrem (a / 64) 4) 0 S hP) ?_
      have f := jv150 w g 0 (zrem (a / 64) 4) 0 (by omega)
      generalize (B150 g 0 (zrem (a / 64) 4) 0 S) = S1 at f ⊢
      generalize (A150 g 0 (zrem (a / 64) 4) 0 S) = wa at f ⊢
      obtain ⟨w1, h1⟩ := f
      refine zH_pre (zr_3_6 i336_42 (zr_2_0 i336_43 (zr_1_4 i336_44 (zr_1_2 i336_45 (zr_0 i336_46 kc_8 (zr_13_3 i336_47 nz_8 (zr_0 i336_48 kc_2 (zr_13_4 i336_49 nz_2 (zt_rfl))))))))) ?_
      have hc : ¬ ((zrem (b / 8) 2) = 0) := h8
      refine zH_pre (zt_cast (zr_18_1 i336_50 (fun _ => zt_rfl) (fun _ => zt_rfl)) (if_neg hc)) ?_
      clear hc
      refine zH_pre (zr_0 i336_53 kc_0 (zr_1_1 i336_54 (zr_0 i336_55 kc_64 (zr_13_3 i336_56 nz_64 (zr_0 i336_57 kc_4 (zr_13_4 i336_58 nz_4 (zr_1_5 i336_59 (zt_rfl)))))))) ?_
      have hP : jP150 g 0 (zrem (a / 64) 4) 0 S1 := ⟨jI_n (by omega) w1.1, (by rw [jite80]; simp only [zk_lt, zk_le, zk_1, jk_0, jk_2, jk_3, jk_4, jk_5, jk_6, jk_7, jk_8, jk_10, jk_11, jk_13, jk_14, jk_15, jk_16, jk_18, jk_20, jk_24, jk_25, jk_36, jk_40, jk_50, jk_64, jk_72, jk_100, jk_120, jk_200, jk_201, jk_216, jk_255, jk_256, jk_257, jk_512, jk_1000, jk_2048, jk_9999, jk_10000, jk_65521, jk_65536, jk_104729, jk_2147483647, jk_m1, jk_m2, jk_m3, jk_m4, jk_m5, jk_m6, jk_m7, jk_m8, jk_m9, jk_m10, jk_m11, jk_m12, jk_m13, jk_m14]; omega)⟩
      refine zH_call (zs_21_4 i336_60 na_150 ob_0 rfl) (y150 g 0 (zrem (a / 64) 4) 0 S1 hP) ?_
      have f := (show jLaw n (B150 g 0 (zrem (a / 64) 4) 0 S1) ∧ (A150 g 0 (zrem (a / 64) 4) 0 S1) = 0 ∧ ∀ e, A150 g 0 (zrem (a / 64) 4) e (B150 g 0 (zrem (a / 64) 4) 0 S1) = 0 from ⟨(jv150 w1 g 0 (zrem (a / 64) 4) 0 (by omega)).1, (h1 _).trans (by decide), fun e => ((jv150 w1 g 0 (zrem (a / 64) 4) 0 (by omega)).2 e).trans (by decide)⟩)
      generalize (B150 g 0 (zrem (a / 64) 4) 0 S1) = S2 at f ⊢
      generalize (A150 g 0 (zrem (a / 64) 4) 0 S1) = r at f ⊢
      obtain ⟨w2, h2, h3⟩ := f
      refine zH_pre (zr_1_5 i336_61 (zt_rfl)) ?_
      have hc : (r = 0) := h2
      refine zH_pre (zt_cast (zr_19_1 i336_62 (fun _ => zt_rfl) (fun _ => zt_rfl)) (if_pos hc)) ?_
      clear hc
      refine zH_pre (zr_1_6 i336_63 (zt_rfl)) ?_
      by_cases hw : (wa = 0)
      · refine zH_pre (zt_cast (zr_18_1 i336_64 (fun _ => zt_rfl) (fun _ => zt_rfl)) (if_pos hw)) ?_
        refine zH_pre (zr_2_0 i336_65 (zr_1_4 i336_66 (zr_1_2 i336_67 (zr_0 i336_68 kc_8 (zr_13_3 i336_69 nz_8 (zr_0 i336_70 kc_2 (zr_13_4 i336_71 nz_2 (zt_rfl)))))))) ?_
        have hc : ¬ ((zrem (b / 8) 2) = 0) := h8
        refine zH_pre (zt_cast (zr_18_1 i336_72 (fun _ => zt_rfl) (fun _ => zt_rfl)) (if_neg hc)) ?_
        clear hc
        refine zH_pre (zr_0 i336_75 kc_0 (zr_1_1 i336_76 (zr_0 i336_77 kc_64 (zr_13_3 i336_78 nz_64 (zr_0 i336_79 kc_4 (zr_13_4 i336_80 nz_4 (zr_1_6 i336_81 (zt_rfl)))))))) ?_
        have hP : jP150 g 0 (zrem (a / 64) 4) wa S2 := ⟨jI_n (by omega) w2.1, (by rw [jite80]; simp only [zk_lt, zk_le, zk_1, jk_0, jk_2, jk_3, jk_4, jk_5, jk_6, jk_7, jk_8, jk_10, jk_11, jk_13, jk_14, jk_15, jk_16, jk_18, jk_20, jk_24, jk_25, jk_36, jk_40, jk_50, jk_64, jk_72, jk_100, jk_120, jk_200, jk_201, jk_216, jk_255, jk_256, jk_257, jk_512, jk_1000, jk_2048, jk_9999, jk_10000, jk_65521, jk_65536, jk_104729, jk_2147483647, jk_m1, jk_m2, jk_m3, jk_m4, jk_m5, jk_m6, jk_m7, jk_m8, jk_m9, jk_m10, jk_m11, jk_m12, jk_m13, jk_m14]; omega)⟩
        refine zH_call (zs_21_4 i336_82 na_150 ob_0 rfl) (y150 g 0 (zrem (a / 64) 4) wa S2 hP) ?_
        have f := (show jLaw n (B150 g 0 (zrem (a / 64) 4) wa S2) ∧ (A150 g 0 (zrem (a / 64) 4) wa S2) = 0 from ⟨(jv150 w2 g 0 (zrem (a / 64) 4) wa (by omega)).1, h3 _⟩)
        generalize (B150 g 0 (zrem (a / 64) 4) wa S2) = S3 at f ⊢
        generalize (A150 g 0 (zrem (a / 64) 4) wa S2) = r3 at f ⊢
        obtain ⟨w3, h4⟩ := f
        have hc : (r3 = 0) := h4
        refine zH_pre (zt_cast (zr_18_0 i336_83 (fun _ => zt_rfl) (fun _ => zt_rfl)) (if_pos hc)) ?_
        clear hc
        refine zH_pre (zr_0 i336_86 kc_1 (zr_17 i336_87 (zt_rfl))) ?_
        exact zH_ret (zr_26 i336_89 zo_1) ⟨rfl, jLaw_u (by omega) w3⟩
      · refine zH_pre (zt_cast (zr_18_1 i336_64 (fun _ => zt_rfl) (fun _ => zt_rfl)) (if_neg hw)) ?_
        refine zH_pre (zr_0 i336_86 kc_1 (zr_17 i336_87 (zt_rfl))) ?_
        exact zH_ret (zr_26 i336_89 zo_1) ⟨rfl, jLaw_u (by omega) w2⟩
set_option maxRecDepth 100000 in
theorem q336c1 {L : Nat} (a b p g : Int32) {S : zS} {n : Nat} (hn : n < 480) (w : jLaw n S) (ha : 0 ≤ a.toInt) (hb : 0 ≤ b.toInt) (hp : 0 ≤ p.toInt ∧ p.toInt < 8) (hg : 0 ≤ g.toInt ∧ g.toInt < 4) : zH L 336 (90, [some (.inr (.inr 0)), some (.inl a), some (.inl b), some (.inl p), some (.inl g), none, none, none, none, none, none, none, none], [], S) (jQ (fun S' => jLaw (n + 6) S')) := by
  have h3 := jrem (x := a / 64) (y := 3) (jdv ha (by decide)).1 (by decide)
  rw [jk_3] at h3
  have h6 := jrem (x := b) (y := 6) hb (by decide)
  rw [jk_6] at h6
  refine zH_pre (zr_2_0 i336_90 (zr_1_1 i336_91 (zr_0 i336_92 kc_64 (zr_13_3 i336_93 nz_64 (zr_0 i336_94 kc_3 (zr_13_4 i336_95 nz_3 (zr_1_2 i336_96 (zr_0 i336_97 kc_6 (zr_13_4 i336_98 nz_6 (zr_1_3 i336_99 (zt_rfl))))))))))) ?_
  have hP : jP148 (zrem (a / 64) 3) (zrem b 6) p S := ⟨jI_n (by omega) w.1, by simp only [zk_lt, zk_le, zk_1, jk_0, jk_2, jk_3, jk_4, jk_5, jk_6, jk_7, jk_8, jk_10, jk_11, jk_13, jk_14, jk_15, jk_16, jk_18, jk_20, jk_24, jk_25, jk_36, jk_40, jk_50, jk_64, jk_72, jk_100, jk_120, jk_200, jk_201, jk_216, jk_255, jk_256, jk_257, jk_512, jk_1000, jk_2048, jk_9999, jk_10000, jk_65521, jk_65536, jk_104729, jk_2147483647, jk_m1, jk_m2, jk_m3, jk_m4, jk_m5, jk_m6, jk_m7, jk_m8, jk_m9, jk_m10, jk_m11, jk_m12, jk_m13, jk_m14]; omega⟩
  refine zH_call (zs_21_3 i336_100 na_148 ob_0 rfl) (y148 (zrem (a / 64) 3) (zrem b 6) p S hP) ?_
  have f := jv148 w h3 h6 (c := p) (by omega)
  generalize (B148 (zrem (a / 64) 3) (zrem b 6) p S) = S1 at f ⊢
  generalize (A148 (zrem (a / 64) 3) (zrem b 6) p S) = r at f ⊢
  obtain ⟨w1, k1, k2, k3⟩ := f
  refine zH_pre (zr_3_7 i336_101 (zr_1_7 i336_102 (zr_0 i336_103 kc_m1 (zt_rfl)))) ?_
  have hc : ¬ (r < (-1)) := by rw [zk_lt, jk_m1]; omega
  refine zH_pre (zt_cast (zr_19_2 i336_104 (fun _ => zt_rfl) (fun _ => zt_rfl)) (if_neg hc)) ?_
  clear hc
  refine zH_pre (zr_1_7 i336_105 (zr_0 i336_106 kc_8 (zt_rfl))) ?_
  have hc : ¬ (8 ≤ r) := by rw [zk_le, jk_8]; omega
  refine zH_pre (zt_cast (zr_19_3 i336_107 (fun _ => zt_rfl) (fun _ => zt_rfl)) (if_neg hc)) ?_
  clear hc
  refine zH_pre (zr_2_0 i336_108 (zr_1_1 i336_109 (zr_0 i336_110 kc_64 (zr_13_3 i336_111 nz_64 (zr_0 i336_112 kc_3 (zr_13_4 i336_113 nz_3 (zr_1_2 i336_114 (zr_0 i336_115 kc_6 (zr_13_4 i336_116 nz_6 (zr_1_3 i336_117 (zt_rfl))))))))))) ?_
  have hP : jP148 (zrem (a / 64) 3) (zrem b 6) p S1 := ⟨jI_n (by omega) w1.1, by simp only [zk_lt, zk_le, zk_1, jk_0, jk_2, jk_3, jk_4, jk_5, jk_6, jk_7, jk_8, jk_10, jk_11, jk_13, jk_14, jk_15, jk_16, jk_18, jk_20, jk_24, jk_25, jk_36, jk_40, jk_50, jk_64, jk_72, jk_100, jk_120, jk_200, jk_201, jk_216, jk_255, jk_256, jk_257, jk_512, jk_1000, jk_2048, jk_9999, jk_10000, jk_65521, jk_65536, jk_104729, jk_2147483647, jk_m1, jk_m2, jk_m3, jk_m4, jk_m5, jk_m6, jk_m7, jk_m8, jk_m9, jk_m10, jk_m11, jk_m12, jk_m13, jk_m14]; omega⟩
  refine zH_call (zs_21_3 i336_118 na_148 ob_0 rfl) (y148 (zrem (a / 64) 3) (zrem b 6) p S1 hP) ?_
  have f := (show jLaw n (B148 (zrem (a / 64) 3) (zrem b 6) p S1) ∧ (A148 (zrem (a / 64) 3) (zrem b 6) p S1) = p from ⟨(jv148 w1 h3 h6 (c := p) (by omega)).1, k1⟩)
  generalize (B148 (zrem (a / 64) 3) (zrem b 6) p S1) = S2 at f ⊢
  generalize (A148 (zrem (a / 64) 3) (zrem b 6) p S1) = r2 at f ⊢
  obtain ⟨w2, k4⟩ := f
  refine zH_pre (zr_1_3 i336_119 (zt_rfl)) ?_
  have hc : (r2 = p) := k4
  refine zH_pre (zt_cast (zr_19_1 i336_120 (fun _ => zt_rfl) (fun _ => zt_rfl)) (if_pos hc)) ?_
  clear hc
  refine zH_pre (zr_0 i336_121 kc_1 (zr_17 i336_122 (zt_rfl))) ?_
  exact zH_ret (zr_26 i336_124 zo_1) ⟨rfl, jLaw_u (by omega) w2⟩
set_option maxRecDepth 100000 in
theorem q336c2 {L : Nat} (a b p g : Int32) {S : zS} {n : Nat} (hn : n < 480) (w : jLaw n S) (ha : 0 ≤ a.toInt) (hb : 0 ≤ b.toInt) (hp : 0 ≤ p.toInt ∧ p.toInt < 8) (hg : 0 ≤ g.toInt ∧ g.toInt < 4) : zH L 336 (125, [some (.inr (.inr 0)), some (.inl a), some (.inl b), some (.inl p), some (.inl g), none, none, none, none, none, none, none, none], [], S) (jQ (fun S' => jLaw (n + 6) S')) := by
  have h7 := jrem (x := b) (y := 7) hb (by decide)
  rw [jk_7] at h7
  have e1 : (p + 1).toInt = p.toInt + 1 := by rw [zk_tadd (by rw [zk_1]; omega) (by rw [zk_1]; omega), zk_1]
  have e2 : ((p + 1) + (zrem b 7)).toInt = p.toInt + 1 + (zrem b 7).toInt := by rw [zk_tadd (by omega) (by omega), e1]
  have e3 := zrem_nn (x := (p + 1) + (zrem b 7)) (y := 8) (by decide) (by omega)
  rw [jk_8, e2] at e3
  have hab : ¬ p = zrem ((p + 1) + (zrem b 7)) 8 := fun e => by have e9 := congrArg Int32.toInt e; omega
  refine zH_pre (zr_1_3 i336_125 (zr_0 i336_126 kc_1 (zr_13_0 i336_127 (zr_1_2 i336_128 (zr_0 i336_129 kc_7 (zr_13_4 i336_130 nz_7 (zr_13_0 i336_131 (zr_0 i336_132 kc_8 (zr_13_4 i336_133 nz_8 (zr_3_8 i336_134 (zr_2_0 i336_135 (zr_1_3 i336_136 (zr_1_8 i336_137 (zt_rfl)))))))))))))) ?_
  have hP : jP149 p (zrem ((p + 1) + (zrem b 7)) 8) S := ⟨jI_n (by omega) w.1, by simp only [zk_lt, zk_le, zk_1, jk_0, jk_2, jk_3, jk_4, jk_5, jk_6, jk_7, jk_8, jk_10, jk_11, jk_13, jk_14, jk_15, jk_16, jk_18, jk_20, jk_24, jk_25, jk_36, jk_40, jk_50, jk_64, jk_72, jk_100, jk_120, jk_200, jk_201, jk_216, jk_255, jk_256, jk_257, jk_512, jk_1000, jk_2048, jk_9999, jk_10000, jk_65521, jk_65536, jk_104729, jk_2147483647, jk_m1, jk_m2, jk_m3, jk_m4, jk_m5, jk_m6, jk_m7, jk_m8, jk_m9, jk_m10, jk_m11, jk_m12, jk_m13, jk_m14]; omega, hab⟩
  refine zH_call (zs_21_2 i336_138 na_149 ob_0 rfl) (y149 p (zrem ((p + 1) + (zrem b 7)) 8) S hP) ?_
  have f := jv149 w (a := p) (b := zrem ((p + 1) + (zrem b 7)) 8) (by omega) hab
  generalize (B149 p (zrem ((p + 1) + (zrem b 7)) 8) S) = S1 at f ⊢
  generalize (A149 p (zrem ((p + 1) + (zrem b 7)) 8) S) = r at f ⊢
  obtain ⟨w1, k1, k2, k3⟩ := f
  refine zH_pre (zr_3_9 i336_139 (zr_1_9 i336_140 (zt_rfl))) ?_
  have hc : ¬ (r < 0) := by rw [zk_lt, jk_0]; omega
  refine zH_pre (zt_cast (zr_18_2 i336_141 (fun _ => zt_rfl) (fun _ => zt_rfl)) (if_neg hc)) ?_
  clear hc
  refine zH_pre (zr_1_9 i336_142 (zr_0 i336_143 kc_18 (zt_rfl))) ?_
  have hc : ¬ (18 < r) := by rw [zk_lt, jk_18]; omega
  refine zH_pre (zt_cast (zr_19_4 i336_144 (fun _ => zt_rfl) (fun _ => zt_rfl)) (if_neg hc)) ?_
  clear hc
  refine zH_pre (zr_2_0 i336_145 (zr_1_3 i336_146 (zr_1_8 i336_147 (zt_rfl)))) ?_
  have hP : jP149 p (zrem ((p + 1) + (zrem b 7)) 8) S1 := ⟨jI_n (by omega) w1.1, by simp only [zk_lt, zk_le, zk_1, jk_0, jk_2, jk_3, jk_4, jk_5, jk_6, jk_7, jk_8, jk_10, jk_11, jk_13, jk_14, jk_15, jk_16, jk_18, jk_20, jk_24, jk_25, jk_36, jk_40, jk_50, jk_64, jk_72, jk_100, jk_120, jk_200, jk_201, jk_216, jk_255, jk_256, jk_257, jk_512, jk_1000, jk_2048, jk_9999, jk_10000, jk_65521, jk_65536, jk_104729, jk_2147483647, jk_m1, jk_m2, jk_m3, jk_m4, jk_m5, jk_m6, jk_m7, jk_m8, jk_m9, jk_m10, jk_m11, jk_m12, jk_m13, jk_m14]; omega, hab⟩
  refine zH_call (zs_21_2 i336_148 na_149 ob_0 rfl) (y149 p (zrem ((p + 1) + (zrem b 7)) 8) S1 hP) ?_
  have f := (show jLaw n (B149 p (zrem ((p + 1) + (zrem b 7)) 8) S1) ∧ (A149 p (zrem ((p + 1) + (zrem b 7)) 8) S1) = 0 from ⟨(jv149 w1 (a := p) (b := zrem ((p + 1) + (zrem b 7)) 8) (by omega) hab).1, k3⟩)
  generalize (B149 p (zrem ((p + 1) + (zrem b 7)) 8) S1) = S2 at f ⊢
  generalize (A149 p (zrem ((p + 1) + (zrem b 7)) 8) S1) = r2 at f ⊢
  obtain ⟨w2, k4⟩ := f
  have hc : (r2 = 0) := k4
  refine zH_pre (zt_cast (zr_18_1 i336_149 (fun _ => zt_rfl) (fun _ => zt_rfl)) (if_pos hc)) ?_
  clear hc
  refine zH_pre (zr_0 i336_150 kc_1 (zr_17 i336_151 (zt_rfl))) ?_
  exact zH_ret (zr_26 i336_153 zo_1) ⟨rfl, jLaw_u (by omega) w2⟩
set_option maxRecDepth 100000 in
theorem q336c3 {L : Nat} (a b p g : Int32) {S : zS} {n : Nat} (hn : n < 480) (w : jLaw n S) (ha : 0 ≤ a.toInt) (hb : 0 ≤ b.toInt) (hp : 0 ≤ p.toInt ∧ p.toInt < 8) (hg : 0 ≤ g.toInt ∧ g.toInt < 4) : zH L 336 (154, [some (.inr (.inr 0)), some (.inl a), some (.inl b), some (.inl p), some (.inl g), none, none, none, none, none, none, none, none], [], S) (jQ (fun S' => jLaw (n + 6) S')) := by
  have h2 := jrem (x := a / 32) (y := 2) (jdv ha (by decide)).1 (by decide)
  rw [jk_2] at h2
  have e1 : (zrem (a / 32) 2 + 1).toInt = (zrem (a / 32) 2).toInt + 1 := by rw [zk_tadd (by rw [zk_1]; omega) (by rw [zk_1]; omega), zk_1]
  have hpo := jrem (x := b / 4) (y := 256) (jdv hb (by decide)).1 (by decide)
  rw [jk_256] at hpo
  have hpo : zn 255 (zrem (b / 4) 256) := by unfold zn; omega
  refine zH_pre (zr_1_1 i336_154 (zr_0 i336_155 kc_32 (zr_13_3 i336_156 nz_32 (zr_0 i336_157 kc_2 (zr_13_4 i336_158 nz_2 (zr_0 i336_159 kc_1 (zr_13_0 i336_160 (zr_3_10 i336_161 (zr_1_10 i336_162 (zr_0 i336_163 kc_1 (zt_rfl))))))))))) ?_
  by_cases hwt : (((zrem (a / 32) 2) + 1) = 1)
  · refine zH_pre (zt_cast (zr_19_1 i336_164 (fun _ => zt_rfl) (fun _ => zt_rfl)) (if_pos hwt)) ?_
    have hx : zx 8 p := by rw [zx_iff]; omega
    have hab : (zrem (a / 32) 2 + 1 = 1 ∧ zx 8 p) ∨ (zrem (a / 32) 2 + 1 = 2 ∧ zx 4 p) := Or.inl ⟨hwt, hx⟩
    refine zH_pre (zr_1_3 i336_165 (zr_17 i336_166 (zr_3_11 i336_168 (zr_2_0 i336_169 (zr_1_10 i336_170 (zr_1_11 i336_171 (zr_1_2 i336_172 (zr_0 i336_173 kc_4 (zr_13_3 i336_174 nz_4 (zr_0 i336_175 kc_256 (zr_13_4 i336_176 nz_256 (zt_rfl)))))))))))) ?_
    have hP : jP147 ((zrem (a / 32) 2) + 1) p (zrem (b / 4) 256) S := ⟨jI_n (by omega) w.1, (by rw [hwt]; exact ⟨fun e => absurd e (by decide), fun _ => hx, fun _ e => absurd rfl e⟩), (by rw [hwt]; right; rw [if_neg (by decide), if_pos rfl]; simp only [zk_lt, zk_le, zk_1, jk_0, jk_2, jk_3, jk_4, jk_5, jk_6, jk_7, jk_8, jk_10, jk_11, jk_13, jk_14, jk_15, jk_16, jk_18, jk_20, jk_24, jk_25, jk_36, jk_40, jk_50, jk_64, jk_72, jk_100, jk_120, jk_200, jk_201, jk_216, jk_255, jk_256, jk_257, jk_512, jk_1000, jk_2048, jk_9999, jk_10000, jk_65521, jk_65536, jk_104729, jk_2147483647, jk_m1, jk_m2, jk_m3, jk_m4, jk_m5, jk_m6, jk_m7, jk_m8, jk_m9, jk_m10, jk_m11, jk_m12, jk_m13, jk_m14]; omega), (by rw [hwt]; simp only [zk_lt, zk_le, zk_1, jk_0, jk_2, jk_3, jk_4, jk_5, jk_6, jk_7, jk_8, jk_10, jk_11, jk_13, jk_14, jk_15, jk_16, jk_18, jk_20, jk_24, jk_25, jk_36, jk_40, jk_50, jk_64, jk_72, jk_100, jk_120, jk_200, jk_201, jk_216, jk_255, jk_256, jk_257, jk_512, jk_1000, jk_2048, jk_9999, jk_10000, jk_65521, jk_65536, jk_104729, jk_2147483647, jk_m1, jk_m2, jk_m3, jk_m4, jk_m5, jk_m6, jk_m7, jk_m8, jk_m9, jk_m10, jk_m11, jk_m12, jk_m13, jk_m14]; unfold zn at *; omega)⟩
    refine zH_call (zs_21_3 i336_177 na_147 ob_0 rfl) (y147 ((zrem (a / 32) 2) + 1) p (zrem (b / 4) 256) S hP) ?_
    have f := jv147 w hab hpo
    generalize (B147 ((zrem (a / 32) 2) + 1) p (zrem (b / 4) 256) S) = S1 at f ⊢
    generalize (A147 ((zrem (a / 32) 2) + 1) p (zrem (b / 4) 256) S) = r at f ⊢
    obtain ⟨w1, k1, k2⟩ := f
    refine zH_pre (zr_3_12 i336_178 (zr_2_0 i336_179 (zr_1_10 i336_180 (zr_1_11 i336_181 (zr_1_12 i336_182 (zt_rfl)))))) ?_
    have hP : jP147 ((zrem (a / 32) 2) + 1) p r S1 := ⟨jI_n (by omega) w1.1, (by rw [hwt]; exact ⟨fun e => absurd e (by decide), fun _ => hx, fun _ e => absurd rfl e⟩), (by rw [hwt]; right; rw [if_neg (by decide), if_pos rfl]; simp only [zk_lt, zk_le, zk_1, jk_0, jk_2, jk_3, jk_4, jk_5, jk_6, jk_7, jk_8, jk_10, jk_11, jk_13, jk_14, jk_15, jk_16, jk_18, jk_20, jk_24, jk_25, jk_36, jk_40, jk_50, jk_64, jk_72, jk_100, jk_120, jk_200, jk_201, jk_216, jk_255, jk_256, jk_257, jk_512, jk_1000, jk_2048, jk_9999, jk_10000, jk_65521, jk_65536, jk_104729, jk_2147483647, jk_m1, jk_m2, jk_m3, jk_m4, jk_m5, jk_m6, jk_m7, jk_m8, jk_m9, jk_m10, jk_m11, jk_m12, jk_m13, jk_m14]; omega), (by rw [hwt]; simp only [zk_lt, zk_le, zk_1, jk_0, jk_2, jk_3, jk_4, jk_5, jk_6, jk_7, jk_8, jk_10, jk_11, jk_13, jk_14, jk_15, jk_16, jk_18, jk_20, jk_24, jk_25, jk_36, jk_40, jk_50, jk_64, jk_72, jk_100, jk_120, jk_200, jk_201, jk_216, jk_255, jk_256, jk_257, jk_512, jk_1000, jk_2048, jk_9999, jk_10000, jk_65521, jk_65536, jk_104729, jk_2147483647, jk_m1, jk_m2, jk_m3, jk_m4, jk_m5, jk_m6, jk_m7, jk_m8, jk_m9, jk_m10, jk_m11, jk_m12, jk_m13, jk_m14]; unfold zn at *; omega)⟩
    refine zH_call (zs_21_3 i336_183 na_147 ob_0 rfl) (y147 ((zrem (a / 32) 2) + 1) p r S1 hP) ?_
    have f := (show jLaw n (B147 ((zrem (a / 32) 2) + 1) p r S1) ∧ (A147 ((zrem (a / 32) 2) + 1) p r S1) = zrem (b / 4) 256 from ⟨(jv147 w1 hab k1).1, k2 _⟩)
    generalize (B147 ((zrem (a / 32) 2) + 1) p r S1) = S2 at f ⊢
    generalize (A147 ((zrem (a / 32) 2) + 1) p r S1) = r2 at f ⊢
    obtain ⟨w2, k4⟩ := f
    refine zH_pre (zr_1_2 i336_184 (zr_0 i336_185 kc_4 (zr_13_3 i336_186 nz_4 (zr_0 i336_187 kc_256 (zr_13_4 i336_188 nz_256 (zt_rfl)))))) ?_
    have hc : (r2 = (zrem (b / 4) 256)) := k4
    refine zH_pre (zt_cast (zr_19_1 i336_189 (fun _ => zt_rfl) (fun _ => zt_rfl)) (if_pos hc)) ?_
    clear hc
    refine zH_pre (zr_0 i336_190 kc_1 (zr_17 i336_191 (zt_rfl))) ?_
    exact zH_ret (zr_26 i336_193 zo_1) ⟨rfl, jLaw_u (by omega) w2⟩
  · refine zH_pre (zt_cast (zr_19_1 i336_164 (fun _ => zt_rfl) (fun _ => zt_rfl)) (if_neg hwt)) ?_
    have hwt : zrem (a / 32) 2 + 1 = 2 := by
      have : ¬ (zrem (a / 32) 2 + 1).toInt = 1 := fun e => hwt (zk_eq.mpr e)
      exact zk_eq.mpr (by rw [jk_2]; omega)
    have hx : zx 4 g := by rw [zx_iff]; omega
    have hab : (zrem (a / 32) 2 + 1 = 1 ∧ zx 8 g) ∨ (zrem (a / 32) 2 + 1 = 2 ∧ zx 4 g) := Or.inr ⟨hwt, hx⟩
    refine zH_pre (zr_1_4 i336_167 (zr_3_11 i336_168 (zr_2_0 i336_169 (zr_1_10 i336_170 (zr_1_11 i336_171 (zr_1_2 i336_172 (zr_0 i336_173 kc_4 (zr_13_3 i336_174 nz_4 (zr_0 i336_175 kc_256 (zr_13_4 i336_176 nz_256 (zt_rfl))))))))))) ?_
    have hP : jP147 ((zrem (a / 32) 2) + 1) g (zrem (b / 4) 256) S := ⟨jI_n (by omega) w.1, (by rw [hwt]; exact ⟨fun e => absurd e (by decide), fun e => absurd e (by decide), fun _ _ => hx⟩), (by rw [hwt]; right; rw [if_neg (by decide), if_neg (by decide)]; simp only [zk_lt, zk_le, zk_1, jk_0, jk_2, jk_3, jk_4, jk_5, jk_6, jk_7, jk_8, jk_10, jk_11, jk_13, jk_14, jk_15, jk_16, jk_18, jk_20, jk_24, jk_25, jk_36, jk_40, jk_50, jk_64, jk_72, jk_100, jk_120, jk_200, jk_201, jk_216, jk_255, jk_256, jk_257, jk_512, jk_1000, jk_2048, jk_9999, jk_10000, jk_65521, jk_65536, jk_104729, jk_2147483647, jk_m1, jk_m2, jk_m3, jk_m4, jk_m5, jk_m6, jk_m7, jk_m8, jk_m9, jk_m10, jk_m11, jk_m12, jk_m13, jk_m14]; omega), (by rw [hwt]; simp only [zk_lt, zk_le, zk_1, jk_0, jk_2, jk_3, jk_4, jk_5, jk_6, jk_7, jk_8, jk_10, jk_11, jk_13, jk_14, jk_15, jk_16, jk_18, jk_20, jk_24, jk_25, jk_36, jk_40, jk_50, jk_64, jk_72, jk_100, jk_120, jk_200, jk_201, jk_216, jk_255, jk_256, jk_257, jk_512, jk_1000, jk_2048, jk_9999, jk_10000, jk_65521, jk_65536, jk_104729, jk_2147483647, jk_m1, jk_m2, jk_m3, jk_m4, jk_m5, jk_m6, jk_m7, jk_m8, jk_m9, jk_m10, jk_m11, jk_m12, jk_m13, jk_m14]; unfold zn at *; omega)⟩
    refine zH_call (zs_21_3 i336_177 na_147 ob_0 rfl) (y147 ((zrem (a / 32) 2) + 1) g (zrem (b / 4) 256) S hP) ?_
    have f := jv147 w hab hpo
    generalize (B147 ((zrem (a / 32) 2) + 1) g (zrem (b / 4) 256) S) = S1 at f ⊢
    generalize (A147 ((zrem (a / 32) 2) + 1) g (zrem (b / 4) 256) S) = r at f ⊢
    obtain ⟨w1, k1, k2⟩ := f
    refine zH_pre (zr_3_12 i336_178 (zr_2_0 i336_179 (zr_1_10 i336_180 (zr_1_11 i336_181 (zr_1_12 i336_182 (zt_rfl)))))) ?_
    have hP : jP147 ((zrem (a / 32) 2) + 1) g r S1 := ⟨jI_n (by omega) w1.1, (by rw [hwt]; exact ⟨fun e => absurd e (by decide), fun e => absurd e (by decide), fun _ _ => hx⟩), (by rw [hwt]; right; rw [if_neg (by decide), if_neg (by decide)]; simp only [zk_lt, zk_le, zk_1, jk_0, jk_2, jk_3, jk_4, jk_5, jk_6, jk_7, jk_8, jk_10, jk_11, jk_13, jk_14, jk_15, jk_16, jk_18, jk_20, jk_24, jk_25, jk_36, jk_40, jk_50, jk_64, jk_72, jk_100, jk_120, jk_200, jk_201, jk_216, jk_255, jk_256, jk_257, jk_512, jk_1000, jk_2048, jk_9999, jk_10000, jk_65521, jk_65536, jk_104729, jk_2147483647, jk_m1, jk_m2, jk_m3, jk_m4, jk_m5, jk_m6, jk_m7, jk_m8, jk_m9, jk_m10, jk_m11, jk_m12, jk_m13, jk_m14]; omega), (by rw [hwt]; simp only [zk_lt, zk_le, zk_1, jk_0, jk_2, jk_3, jk_4, jk_5, jk_6, jk_7, jk_8, jk_10, jk_11, jk_13, jk_14, jk_15, jk_16, jk_18, jk_20, jk_24, jk_25, jk_36, jk_40, jk_50, jk_64, jk_72, jk_100, jk_120, jk_200, jk_201, jk_216, jk_255, jk_256, jk_257, jk_512, jk_1000, jk_2048, jk_9999, jk_10000, jk_65521, jk_65536, jk_104729, jk_2147483647, jk_m1, jk_m2, jk_m3, jk_m4, jk_m5, jk_m6, jk_m7, jk_m8, jk_m9, jk_m10, jk_m11, jk_m12, jk_m13, jk_m14]; unfold zn at *; omega)⟩
    refine zH_call (zs_21_3 i336_183 na_147 ob_0 rfl) (y147 ((zrem (a / 32) 2) + 1) g r S1 hP) ?_
    have f := (show jLaw n (B147 ((zrem (a / 32) 2) + 1) g r S1) ∧ (A147 ((zrem (a / 32) 2) + 1) g r S1) = zrem (b / 4) 256 from ⟨(jv147 w1 hab k1).1, k2 _⟩)
    generalize (B147 ((zrem (a / 32) 2) + 1) g r S1) = S2 at f ⊢
    generalize (A147 ((zrem (a / 32) 2) + 1) g r S1) = r2 at f ⊢
    obtain ⟨w2, k4⟩ := f
    refine zH_pre (zr_1_2 i336_184 (zr_0 i336_185 kc_4 (zr_13_3 i336_186 nz_4 (zr_0 i336_187 kc_256 (zr_13_4 i336_188 nz_256 (zt_rfl)))))) ?_
    have hc : (r2 = (zrem (b / 4) 256)) := k4
    refine zH_pre (zt_cast (zr_19_1 i336_189 (fun _ => zt_rfl) (fun _ => zt_rfl)) (if_pos hc)) ?_
    clear hc
    refine zH_pre (zr_0 i336_190 kc_1 (zr_17 i336_191 (zt_rfl))) ?_
    exact zH_ret (zr_26 i336_193 zo_1) ⟨rfl, jLaw_u (by omega) w2⟩
