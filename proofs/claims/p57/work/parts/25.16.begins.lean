/-! the law: 25.16.begins (wip/p57/gen) -/
theorem i325_185 : zi 325 185 186 2 0 0 := by decide +kernel
theorem i325_186 : zi 325 186 187 0 0 0 := by decide +kernel
theorem i325_187 : zi 325 187 188 0 0 0 := by decide +kernel
theorem i325_188 : zi 325 188 189 0 0 1 := by decide +kernel
theorem i325_189 : zi 325 189 190 21 147 11 := by decide +kernel
theorem i325_190 : zi 325 190 191 18 211 1 := by decide +kernel
theorem i325_191 : zi 325 191 192 2 0 0 := by decide +kernel
theorem i325_192 : zi 325 192 193 0 0 0 := by decide +kernel
theorem i325_193 : zi 325 193 194 0 0 1 := by decide +kernel
theorem i325_194 : zi 325 194 195 0 0 2 := by decide +kernel
theorem i325_195 : zi 325 195 196 21 147 11 := by decide +kernel
theorem i325_196 : zi 325 196 197 18 211 1 := by decide +kernel
theorem i325_197 : zi 325 197 198 2 0 0 := by decide +kernel
theorem i325_198 : zi 325 198 199 0 0 1 := by decide +kernel
theorem i325_199 : zi 325 199 200 0 0 7 := by decide +kernel
theorem i325_200 : zi 325 200 201 0 0 8 := by decide +kernel
theorem i325_201 : zi 325 201 202 21 147 11 := by decide +kernel
theorem i325_202 : zi 325 202 203 18 211 1 := by decide +kernel
theorem i325_203 : zi 325 203 204 2 0 0 := by decide +kernel
theorem i325_204 : zi 325 204 205 0 0 2 := by decide +kernel
theorem i325_205 : zi 325 205 206 0 0 3 := by decide +kernel
theorem i325_206 : zi 325 206 207 0 0 16 := by decide +kernel
theorem i325_207 : zi 325 207 208 21 147 11 := by decide +kernel
theorem i325_208 : zi 325 208 209 18 211 1 := by decide +kernel
theorem i325_209 : zi 325 209 210 0 0 1 := by decide +kernel
theorem i325_210 : zi 325 210 211 17 212 0 := by decide +kernel
theorem i325_212 : zi 325 212 213 26 0 0 := by decide +kernel
theorem i325_164 : zi 325 164 165 2 0 0 := by decide +kernel
theorem i325_165 : zi 325 165 166 0 0 0 := by decide +kernel
theorem i325_166 : zi 325 166 167 0 0 0 := by decide +kernel
theorem i325_167 : zi 325 167 168 0 0 0 := by decide +kernel
theorem i325_168 : zi 325 168 169 21 148 11 := by decide +kernel
theorem i325_169 : zi 325 169 170 0 0 (-1) := by decide +kernel
theorem i325_170 : zi 325 170 171 19 211 1 := by decide +kernel
theorem i325_171 : zi 325 171 172 2 0 0 := by decide +kernel
theorem i325_172 : zi 325 172 173 0 0 1 := by decide +kernel
theorem i325_173 : zi 325 173 174 0 0 1 := by decide +kernel
theorem i325_174 : zi 325 174 175 0 0 1 := by decide +kernel
theorem i325_175 : zi 325 175 176 21 148 11 := by decide +kernel
theorem i325_176 : zi 325 176 177 0 0 (-1) := by decide +kernel
theorem i325_177 : zi 325 177 178 19 211 1 := by decide +kernel
theorem i325_178 : zi 325 178 179 2 0 0 := by decide +kernel
theorem i325_179 : zi 325 179 180 0 0 2 := by decide +kernel
theorem i325_180 : zi 325 180 181 0 0 5 := by decide +kernel
theorem i325_181 : zi 325 181 182 0 0 7 := by decide +kernel
theorem i325_182 : zi 325 182 183 21 148 11 := by decide +kernel
theorem i325_183 : zi 325 183 184 0 0 (-1) := by decide +kernel
theorem i325_184 : zi 325 184 185 19 211 1 := by decide +kernel
theorem i325_102 : zi 325 102 103 1 4 0 := by decide +kernel
theorem i325_103 : zi 325 103 104 18 211 0 := by decide +kernel
theorem i325_104 : zi 325 104 105 2 0 0 := by decide +kernel
theorem i325_105 : zi 325 105 106 0 0 0 := by decide +kernel
theorem i325_106 : zi 325 106 107 0 0 8 := by decide +kernel
theorem i325_107 : zi 325 107 108 0 0 0 := by decide +kernel
theorem i325_108 : zi 325 108 109 0 0 0 := by decide +kernel
theorem i325_109 : zi 325 109 110 0 0 15 := by decide +kernel
theorem i325_110 : zi 325 110 111 0 0 0 := by decide +kernel
theorem i325_111 : zi 325 111 112 21 145 11 := by decide +kernel
theorem na_145 : z_na 145 = 6 := by decide +kernel
theorem i325_112 : zi 325 112 113 0 0 1 := by decide +kernel
theorem i325_113 : zi 325 113 114 19 211 1 := by decide +kernel
theorem i325_114 : zi 325 114 115 2 0 0 := by decide +kernel
theorem i325_115 : zi 325 115 116 0 0 1 := by decide +kernel
theorem i325_116 : zi 325 116 117 0 0 6 := by decide +kernel
theorem i325_117 : zi 325 117 118 0 0 7 := by decide +kernel
theorem i325_118 : zi 325 118 119 0 0 8 := by decide +kernel
theorem i325_119 : zi 325 119 120 0 0 3 := by decide +kernel
theorem i325_120 : zi 325 120 121 0 0 0 := by decide +kernel
theorem i325_121 : zi 325 121 122 21 145 11 := by decide +kernel
theorem i325_122 : zi 325 122 123 0 0 1 := by decide +kernel
theorem i325_123 : zi 325 123 124 19 211 1 := by decide +kernel
theorem i325_124 : zi 325 124 125 2 0 0 := by decide +kernel
theorem i325_125 : zi 325 125 126 0 0 1 := by decide +kernel
theorem i325_126 : zi 325 126 127 0 0 6 := by decide +kernel
theorem i325_127 : zi 325 127 128 0 0 6 := by decide +kernel
theorem i325_128 : zi 325 128 129 0 0 6 := by decide +kernel
theorem i325_129 : zi 325 129 130 0 0 9 := by decide +kernel
theorem kc_9 : Int32.ofInt 9 = 9 := by decide +kernel
theorem i325_130 : zi 325 130 131 0 0 1 := by decide +kernel
theorem i325_131 : zi 325 131 132 21 145 11 := by decide +kernel
theorem i325_132 : zi 325 132 133 0 0 2 := by decide +kernel
theorem i325_133 : zi 325 133 134 19 211 1 := by decide +kernel
theorem i325_134 : zi 325 134 135 2 0 0 := by decide +kernel
theorem i325_135 : zi 325 135 136 0 0 2 := by decide +kernel
theorem i325_136 : zi 325 136 137 0 0 6 := by decide +kernel
theorem i325_137 : zi 325 137 138 0 0 2 := by decide +kernel
theorem i325_138 : zi 325 138 139 0 0 6 := by decide +kernel
theorem i325_139 : zi 325 139 140 0 0 0 := by decide +kernel
theorem i325_140 : zi 325 140 141 0 0 0 := by decide +kernel
theorem i325_141 : zi 325 141 142 21 145 11 := by decide +kernel
theorem i325_142 : zi 325 142 143 0 0 1 := by decide +kernel
theorem i325_143 : zi 325 143 144 19 211 1 := by decide +kernel
theorem i325_144 : zi 325 144 145 2 0 0 := by decide +kernel
theorem i325_145 : zi 325 145 146 0 0 3 := by decide +kernel
theorem i325_146 : zi 325 146 147 0 0 8 := by decide +kernel
theorem i325_147 : zi 325 147 148 0 0 0 := by decide +kernel
theorem i325_148 : zi 325 148 149 0 0 0 := by decide +kernel
theorem i325_149 : zi 325 149 150 0 0 1 := by decide +kernel
theorem i325_150 : zi 325 150 151 0 0 2 := by decide +kernel
theorem i325_151 : zi 325 151 152 21 145 11 := by decide +kernel
theorem i325_152 : zi 325 152 153 0 0 1 := by decide +kernel
theorem i325_153 : zi 325 153 154 19 211 1 := by decide +kernel
theorem i325_154 : zi 325 154 155 2 0 0 := by decide +kernel
theorem i325_155 : zi 325 155 156 0 0 4 := by decide +kernel
theorem i325_156 : zi 325 156 157 0 0 0 := by decide +kernel
theorem i325_157 : zi 325 157 158 0 0 8 := by decide +kernel
theorem i325_158 : zi 325 158 159 0 0 0 := by decide +kernel
theorem i325_159 : zi 325 159 160 0 0 15 := by decide +kernel
theorem i325_160 : zi 325 160 161 0 0 0 := by decide +kernel
theorem i325_161 : zi 325 161 162 21 145 11 := by decide +kernel
theorem i325_162 : zi 325 162 163 0 0 1 := by decide +kernel
theorem i325_163 : zi 325 163 164 19 211 1 := by decide +kernel
theorem i325_54 : zi 325 54 55 1 5 0 := by decide +kernel
theorem i325_55 : zi 325 55 56 0 0 6 := by decide +kernel
theorem i325_56 : zi 325 56 57 19 102 3 := by decide +kernel
theorem i325_57 : zi 325 57 58 1 3 0 := by decide +kernel
theorem i325_58 : zi 325 58 59 0 0 64 := by decide +kernel
theorem i325_59 : zi 325 59 60 13 3 0 := by decide +kernel
theorem i325_60 : zi 325 60 61 1 5 0 := by decide +kernel
theorem i325_61 : zi 325 61 62 13 0 0 := by decide +kernel
theorem i325_62 : zi 325 62 63 0 0 4 := by decide +kernel
theorem i325_63 : zi 325 63 64 13 4 0 := by decide +kernel
theorem i325_64 : zi 325 64 65 0 0 1 := by decide +kernel
theorem i325_65 : zi 325 65 66 13 1 0 := by decide +kernel
theorem i325_66 : zi 325 66 67 3 6 0 := by decide +kernel
theorem i325_67 : zi 325 67 68 1 6 0 := by decide +kernel
theorem i325_68 : zi 325 68 69 18 81 2 := by decide +kernel
theorem i325_81 : zi 325 81 82 2 2 0 := by decide +kernel
theorem i325_82 : zi 325 82 83 1 5 0 := by decide +kernel
theorem i325_83 : zi 325 83 84 1 6 0 := by decide +kernel
theorem i325_84 : zi 325 84 85 0 0 1 := by decide +kernel
theorem i325_85 : zi 325 85 86 13 0 0 := by decide +kernel
theorem i325_86 : zi 325 86 87 10 0 0 := by decide +kernel
theorem i325_87 : zi 325 87 88 2 2 0 := by decide +kernel
theorem i325_88 : zi 325 88 89 0 0 6 := by decide +kernel
theorem i325_89 : zi 325 89 90 1 5 0 := by decide +kernel
theorem i325_90 : zi 325 90 91 13 0 0 := by decide +kernel
theorem i325_91 : zi 325 91 92 1 6 0 := by decide +kernel
theorem i325_92 : zi 325 92 93 0 0 1 := by decide +kernel
theorem i325_93 : zi 325 93 94 19 98 1 := by decide +kernel
theorem i325_98 : zi 325 98 99 0 0 0 := by decide +kernel
theorem i325_99 : zi 325 99 100 10 0 0 := by decide +kernel
theorem i325_100 : zi 325 100 101 5 5 1 := by decide +kernel
theorem i325_101 : zi 325 101 102 17 54 0 := by decide +kernel
theorem i325_69 : zi 325 69 70 2 0 0 := by decide +kernel
theorem i325_70 : zi 325 70 71 1 5 0 := by decide +kernel
theorem i325_71 : zi 325 71 72 1 6 0 := by decide +kernel
theorem i325_72 : zi 325 72 73 1 6 0 := by decide +kernel
theorem i325_73 : zi 325 73 74 0 0 1 := by decide +kernel
theorem i325_74 : zi 325 74 75 19 79 1 := by decide +kernel
theorem i325_75 : zi 325 75 76 1 5 0 := by decide +kernel
theorem i325_76 : zi 325 76 77 0 0 3 := by decide +kernel
theorem i325_77 : zi 325 77 78 13 4 0 := by decide +kernel
theorem i325_78 : zi 325 78 79 17 80 0 := by decide +kernel
theorem i325_80 : zi 325 80 81 21 143 11 := by decide +kernel
theorem i325_94 : zi 325 94 95 1 5 0 := by decide +kernel
theorem i325_95 : zi 325 95 96 0 0 3 := by decide +kernel
theorem i325_96 : zi 325 96 97 13 4 0 := by decide +kernel
theorem i325_97 : zi 325 97 98 17 99 0 := by decide +kernel
theorem i325_79 : zi 325 79 80 0 0 0 := by decide +kernel
theorem ml_325 : z_ml 325 = 7 := by decide +kernel
theorem en_325 : ∀ (v0 v1 v2 v3 : zV), z_ent 325 [v0, v1, v2, v3] = [some v0, some v1, some v2, some v3, none, none, none] := fun v0 v1 v2 v3 => by unfold z_ent; rw [ml_325]; rfl
theorem i325_0 : zi 325 0 1 2 1 0 := by decide +kernel
theorem i325_1 : zi 325 1 2 0 0 6 := by decide +kernel
theorem i325_2 : zi 325 2 3 0 0 1 := by decide +kernel
theorem i325_3 : zi 325 3 4 1 3 0 := by decide +kernel
theorem i325_4 : zi 325 4 5 0 0 6 := by decide +kernel
theorem i325_5 : zi 325 5 6 13 4 0 := by decide +kernel
theorem i325_6 : zi 325 6 7 13 0 0 := by decide +kernel
theorem i325_7 : zi 325 7 8 10 0 0 := by decide +kernel
theorem i325_8 : zi 325 8 9 2 1 0 := by decide +kernel
theorem i325_9 : zi 325 9 10 0 0 7 := by decide +kernel
theorem i325_10 : zi 325 10 11 0 0 1 := by decide +kernel
theorem i325_11 : zi 325 11 12 1 3 0 := by decide +kernel
theorem i325_12 : zi 325 12 13 0 0 6 := by decide +kernel
theorem i325_13 : zi 325 13 14 13 3 0 := by decide +kernel
theorem i325_14 : zi 325 14 15 2 1 0 := by decide +kernel
theorem i325_15 : zi 325 15 16 0 0 6 := by decide +kernel
theorem i325_16 : zi 325 16 17 8 0 0 := by decide +kernel
theorem i325_17 : zi 325 17 18 13 4 0 := by decide +kernel
theorem i325_18 : zi 325 18 19 13 0 0 := by decide +kernel
theorem i325_19 : zi 325 19 20 10 0 0 := by decide +kernel
theorem i325_20 : zi 325 20 21 2 0 0 := by decide +kernel
theorem i325_21 : zi 325 21 22 1 3 0 := by decide +kernel
theorem i325_22 : zi 325 22 23 0 0 65536 := by decide +kernel
theorem i325_23 : zi 325 23 24 13 4 0 := by decide +kernel
theorem i325_24 : zi 325 24 25 2 1 0 := by decide +kernel
theorem i325_25 : zi 325 25 26 0 0 6 := by decide +kernel
theorem i325_26 : zi 325 26 27 8 0 0 := by decide +kernel
theorem i325_27 : zi 325 27 28 2 1 0 := by decide +kernel
theorem i325_28 : zi 325 28 29 0 0 7 := by decide +kernel
theorem i325_29 : zi 325 29 30 8 0 0 := by decide +kernel
theorem i325_30 : zi 325 30 31 21 131 11 := by decide +kernel
theorem na_131 : z_na 131 = 3 := by decide +kernel
theorem i325_31 : zi 325 31 32 2 0 0 := by decide +kernel
theorem i325_32 : zi 325 32 33 21 135 11 := by decide +kernel
theorem i325_33 : zi 325 33 34 18 40 1 := by decide +kernel
theorem i325_34 : zi 325 34 35 2 0 0 := by decide +kernel
theorem i325_35 : zi 325 35 36 21 142 11 := by decide +kernel
theorem i325_36 : zi 325 36 37 0 0 1 := by decide +kernel
theorem i325_37 : zi 325 37 38 19 40 1 := by decide +kernel
theorem i325_38 : zi 325 38 39 0 0 1 := by decide +kernel
theorem i325_39 : zi 325 39 40 17 41 0 := by decide +kernel
theorem i325_41 : zi 325 41 42 3 4 0 := by decide +kernel
theorem i325_42 : zi 325 42 43 1 4 0 := by decide +kernel
theorem i325_43 : zi 325 43 44 18 50 0 := by decide +kernel
theorem i325_44 : zi 325 44 45 2 0 0 := by decide +kernel
theorem i325_45 : zi 325 45 46 2 1 0 := by decide +kernel
theorem i325_46 : zi 325 46 47 22 326 0 := by decide +kernel
theorem i325_47 : zi 325 47 48 18 50 0 := by decide +kernel
theorem i325_48 : zi 325 48 49 0 0 1 := by decide +kernel
theorem i325_49 : zi 325 49 50 17 51 0 := by decide +kernel
theorem i325_51 : zi 325 51 52 3 4 0 := by decide +kernel
theorem i325_52 : zi 325 52 53 0 0 0 := by decide +kernel
theorem i325_53 : zi 325 53 54 3 5 0 := by decide +kernel

theorem jBopn {i : Nat} {S S1 : zS} (h : jB i S) (hi : jI 0 S1) (h6 : S1 1 6 = 1) (hp : zkp [1, 15] [1005, 1006] S S1) : jB i (z_up S1 13 8 1) := by
  obtain ⟨w, h16, h20, h24, h25, h26, h27⟩ := h
  have e : ∀ c, zmem [1, 13, 15] c = false → z_up S1 13 8 1 c = S c := fun c hc => by
    have h13 : Nat.beq c 13 = false := Bool.eq_false_iff.mpr (fun e => by rw [Nat.eq_of_beq_eq_true e] at hc; exact absurd hc (by decide))
    have h1 : zmem [1, 15] c = false := zsub_mem (by rfl) hc
    rw [zupc h13, hp.1 c h1]
  exact ⟨jopn w hi h6 hp, fun f a b => by rw [e 16 rfl]; exact h16 f a b, by rw [e 20 rfl, h20], fun j hj => by rw [e 24 rfl]; exact h24 j hj, by rw [e 25 rfl, h25], by rw [e 26 rfl, h26], by rw [e 27 rfl, h27]⟩
theorem jBm {i : Nat} {S : zS} (h : jB i S) (hi : i < 6) {k b c u : Int32} (hk : k = Int32.ofNat i) (hb : 0 ≤ b.toInt ∧ b.toInt ≤ 2) (hc : zx 3 c) {j : Nat} (hj : 6 ≤ j) : jB (i + 1) (z_up (z_up (B143 k b c S) 81 k.toNatClampNeg (b + 1)) 81 j u) := by
  obtain ⟨w, h16, h20, h24, h25, h26, h27⟩ := h
  have hn : k.toNatClampNeg = i := by rw [hk]; exact zk_ix i (by omega)
  have hx : zx 6 k := by rw [zx_iff, hk, zk_ti i (by omega)]; omega
  obtain ⟨q1, q2, q3⟩ := jq143a w.1 (a := k) hb hc
  have e : ∀ c', zmem [16, 17, 81] c' = false → z_up (z_up (B143 k b c S) 81 k.toNatClampNeg (b + 1)) 81 j u c' = S c' := fun c' hc' => by
    have h81 : Nat.beq c' 81 = false := Bool.eq_false_iff.mpr (fun e => by rw [Nat.eq_of_beq_eq_true e] at hc'; exact absurd hc' (by decide))
    have h1 : zmem [16, 17] c' = false := zsub_mem (by rfl) hc'
    rw [zupc h81, zupc h81, q3.1 c' h1]
  refine ⟨jmount1 w hx hb hc hj, fun f a1 a2 => ?_, by rw [e 20 rfl, h20], fun j hj => by rw [e 24 rfl]; exact h24 j hj, by rw [e 25 rfl, h25], by rw [e 26 rfl, h26], by rw [e 27 rfl, h27]⟩
  rw [zupci rfl, zupci rfl, q2]
  unfold upd
  rw [if_neg (by omega)]; exact h16 f (by omega) a2
theorem jBn {i : Nat} {S : zS} (h : jB i S) (hi : i < 6) {k v u : Int32} (hk : k = Int32.ofNat i) (hv : v = 0) {j : Nat} (hj : 6 ≤ j) : jB (i + 1) (z_up (z_up S 81 k.toNatClampNeg v) 81 j u) := by
  obtain ⟨w, h16, h20, h24, h25, h26, h27⟩ := h
  have hn : k.toNatClampNeg = i := by rw [hk]; exact zk_ix i (by omega)
  have e : ∀ c', zmem [81] c' = false → z_up (z_up S 81 k.toNatClampNeg v) 81 j u c' = S c' := fun c' hc' => by
    have h81 : Nat.beq c' 81 = false := Bool.eq_false_iff.mpr (fun e => by rw [Nat.eq_of_beq_eq_true e] at hc'; exact absurd hc' (by decide))
    rw [zupc h81, zupc h81]
  refine ⟨⟨jI_81 (jI_81 w.1 _ _) _ _, jCx_81 (jCx_81 w.2.1 _ _) _ _, fun f hf => ?_⟩, fun f a1 a2 => by rw [e 16 rfl]; exact h16 f (by omega) a2, by rw [e 20 rfl, h20], fun j hj => by rw [e 24 rfl]; exact h24 j hj, by rw [e 25 rfl, h25], by rw [e 26 rfl, h26], by rw [e 27 rfl, h27]⟩
  have hne : ¬ f = j := by omega
  rw [e 16 rfl, zup2, if_pos rfl, if_neg hne, zup2, if_pos rfl]
  by_cases hfa : f = k.toNatClampNeg
  · rw [if_pos hfa, hv, h16 f (by omega) hf]; rfl
  · rw [if_neg hfa]; exact w.2.2 f hf
theorem jal {S : zS} (a b c : Int32) : (∀ j, ¬ j = ((a * 6) + b).toNatClampNeg → B148 a b c S 24 j = S 24 j) ∧ B148 a b c S 25 = S 25 ∧ B148 a b c S 26 = S 26 ∧ B148 a b c S 27 = S 27 := by
  have hp := p_B148 a b c S
  refine ⟨fun j hj => ?_, hp.1 25 rfl, hp.1 26 rfl, hp.1 27 rfl⟩
  unfold B148
  rw [zup2, if_pos rfl, if_neg hj]
theorem jpo0 {S : zS} (b c : Int32) : (∀ j, ¬ j = b.toNatClampNeg → B147 0 b c S 25 j = S 25 j) ∧ B147 0 b c S 26 = S 26 ∧ B147 0 b c S 27 = S 27 := by
  unfold B147
  rw [if_pos rfl]
  exact ⟨fun j hj => by rw [zup2, if_pos rfl, if_neg hj], zupc rfl, zupc rfl⟩
theorem jpo1 {S : zS} (b c : Int32) : B147 1 b c S 27 = S 27 := by
  unfold B147
  rw [if_neg (by decide), if_pos rfl]
  exact zupc rfl
theorem jplL {n : Nat} {S : zS} (w : jLaw n S) (a b : Int32) {c : Int32} (hc : zn 255 c) : jLaw n (B147 a b c S) := ⟨jq147 w.1 a b hc, jCx_k rfl (p_B147 a b c S) w.2.1, jE_k rfl rfl (p_B147 a b c S) w.2.2⟩

theorem jk_65535b : (65535 : Int32).toInt = 65535 := rfl
theorem jdv64 {x : Int32} (hx : 0 ≤ x.toInt) : (x / 64).toInt ≤ 33554431 := by
  rw [zdiv_ti (by decide) hx, jk_64]
  have := Int32.toInt_lt x
  omega

set_option maxRecDepth 100000 in
theorem q325g {L : Nat} (a : Int32) (u5 u6 : Option zV) {S : zS} (w : jLaw 0 S) (h25 : S 25 = fun _ => 0) (h26 : S 26 = fun _ => 0) (h27 : S 27 = fun _ => 0) : zH L 325 (185, [some (.inr (.inr 0)), some (.inr (.inr 13)), some (.inr (.inr 81)), some (.inl a), some (.inl 1), u5, u6], [], S) (jQ (fun S' => jLaw 0 S')) := by
  refine zH_pre (zr_2_0 i325_185 (zr_0 i325_186 kc_0 (zr_0 i325_187 kc_0 (zr_0 i325_188 kc_1 (zt_rfl))))) ?_
  have hP : jP147 0 0 1 S := ⟨jI_n (by omega) w.1, ⟨fun _ => (by unfold zx; decide), fun e => absurd e (by decide), fun e => absurd rfl e⟩, (by decide), (by decide)⟩
  refine zH_call (zs_21_3 i325_189 na_147 ob_0 rfl) (y147 0 0 1 S hP) ?_
  have f := (show jLaw 0 (B147 0 0 1 S) ∧ ((∀ j, ¬ j = (0 : Int32).toNatClampNeg → (B147 0 0 1 S) 25 j = S 25 j) ∧ (B147 0 0 1 S) 26 = S 26 ∧ (B147 0 0 1 S) 27 = S 27) ∧ (A147 0 0 1 S) = 0 from ⟨jplL w _ _ (by unfold zn; decide), jpo0 _ _, congrFun h25 _⟩)
  generalize (B147 0 0 1 S) = R10 at f ⊢
  generalize (A147 0 0 1 S) = r at f ⊢
  obtain ⟨w10, ⟨x10, z10, v10⟩, s10⟩ := f
  have hc : (r = 0) := s10
  refine zH_pre (zt_cast (zr_18_1 i325_190 (fun _ => zt_rfl) (fun _ => zt_rfl)) (if_pos hc)) ?_
  clear hc
  refine zH_pre (zr_2_0 i325_191 (zr_0 i325_192 kc_0 (zr_0 i325_193 kc_1 (zr_0 i325_194 kc_2 (zt_rfl))))) ?_
  have hP : jP147 0 1 2 R10 := ⟨jI_n (by omega) w10.1, ⟨fun _ => (by unfold zx; decide), fun e => absurd e (by decide), fun e => absurd rfl e⟩, (by decide), (by decide)⟩
  refine zH_call (zs_21_3 i325_195 na_147 ob_0 rfl) (y147 0 1 2 R10 hP) ?_
  have f := (show jLaw 0 (B147 0 1 2 R10) ∧ ((∀ j, ¬ j = (1 : Int32).toNatClampNeg → (B147 0 1 2 R10) 25 j = R10 25 j) ∧ (B147 0 1 2 R10) 26 = R10 26 ∧ (B147 0 1 2 R10) 27 = R10 27) ∧ (A147 0 1 2 R10) = 0 from ⟨jplL w10 _ _ (by unfold zn; decide), jpo0 _ _, (x10 _ (by decide)).trans (congrFun h25 _)⟩)
  generalize (B147 0 1 2 R10) = R11 at f ⊢
  generalize (A147 0 1 2 R10) = r at f ⊢
  obtain ⟨w11, ⟨x11, z11, v11⟩, s11⟩ := f
  have hc : (r = 0) := s11
  refine zH_pre (zt_cast (zr_18_1 i325_196 (fun _ => zt_rfl) (fun _ => zt_rfl)) (if_pos hc)) ?_
  clear hc
  have h26 : R11 26 = fun _ => 0 := by rw [z11, z10, h26]
  have h27 : R11 27 = fun _ => 0 := by rw [v11, v10, h27]
  refine zH_pre (zr_2_0 i325_197 (zr_0 i325_198 kc_1 (zr_0 i325_199 kc_7 (zr_0 i325_200 kc_8 (zt_rfl))))) ?_
  have hP : jP147 1 7 8 R11 := ⟨jI_n (by omega) w11.1, ⟨fun e => absurd e (by decide), fun _ => (by unfold zx; decide), fun _ e => absurd rfl e⟩, (by decide), (by decide)⟩
  refine zH_call (zs_21_3 i325_201 na_147 ob_0 rfl) (y147 1 7 8 R11 hP) ?_
  have f := (show jLaw 0 (B147 1 7 8 R11) ∧ (B147 1 7 8 R11) 27 = R11 27 ∧ (A147 1 7 8 R11) = 0 from ⟨jplL w11 _ _ (by unfold zn; decide), jpo1 _ _, congrFun h26 _⟩)
  generalize (B147 1 7 8 R11) = R12 at f ⊢
  generalize (A147 1 7 8 R11) = r at f ⊢
  obtain ⟨w12, v12, s12⟩ := f
  have hc : (r = 0) := s12
  refine zH_pre (zt_cast (zr_18_1 i325_202 (fun _ => zt_rfl) (fun _ => zt_rfl)) (if_pos hc)) ?_
  clear hc
  have h27 : R12 27 = fun _ => 0 := by rw [v12, h27]
  refine zH_pre (zr_2_0 i325_203 (zr_0 i325_204 kc_2 (zr_0 i325_205 kc_3 (zr_0 i325_206 kc_16 (zt_rfl))))) ?_
  have hP : jP147 2 3 16 R12 := ⟨jI_n (by omega) w12.1, ⟨fun e => absurd e (by decide), fun e => absurd e (by decide), fun _ _ => (by unfold zx; decide)⟩, (by decide), (by decide)⟩
  refine zH_call (zs_21_3 i325_207 na_147 ob_0 rfl) (y147 2 3 16 R12 hP) ?_
  have f := (show jLaw 0 (B147 2 3 16 R12) ∧ (A147 2 3 16 R12) = 0 from ⟨jplL w12 _ _ (by unfold zn; decide), congrFun h27 _⟩)
  generalize (B147 2 3 16 R12) = R13 at f ⊢
  generalize (A147 2 3 16 R12) = r at f ⊢
  obtain ⟨w13, s13⟩ := f
  have hc : (r = 0) := s13
  refine zH_pre (zt_cast (zr_18_1 i325_208 (fun _ => zt_rfl) (fun _ => zt_rfl)) (if_pos hc)) ?_
  clear hc
  refine zH_pre (zr_0 i325_209 kc_1 (zr_17 i325_210 (zt_rfl))) ?_
  exact zH_ret (zr_26 i325_212 zo_1) ⟨rfl, w13⟩
set_option maxRecDepth 100000 in
theorem q325f {L : Nat} (a : Int32) (u5 u6 : Option zV) {S : zS} (w : jLaw 0 S) (h24 : ∀ j, j < 18 → S 24 j = -1) (h25 : S 25 = fun _ => 0) (h26 : S 26 = fun _ => 0) (h27 : S 27 = fun _ => 0) : zH L 325 (164, [some (.inr (.inr 0)), some (.inr (.inr 13)), some (.inr (.inr 81)), some (.inl a), some (.inl 1), u5, u6], [], S) (jQ (fun S' => jLaw 0 S')) := by
  refine zH_pre (zr_2_0 i325_164 (zr_0 i325_165 kc_0 (zr_0 i325_166 kc_0 (zr_0 i325_167 kc_0 (zt_rfl))))) ?_
  have hP : jP148 0 0 0 S := ⟨jI_n (by omega) w.1, (by decide)⟩
  refine zH_call (zs_21_3 i325_168 na_148 ob_0 rfl) (y148 0 0 0 S hP) ?_
  have f := (show jLaw 0 (B148 0 0 0 S) ∧ ((∀ j, ¬ j = (((0 : Int32) * 6) + 0).toNatClampNeg → (B148 0 0 0 S) 24 j = S 24 j) ∧ (B148 0 0 0 S) 25 = S 25 ∧ (B148 0 0 0 S) 26 = S 26 ∧ (B148 0 0 0 S) 27 = S 27) ∧ (A148 0 0 0 S) = -1 from ⟨(jv148 w (by decide) (by decide) (by decide)).1, jal _ _ _, h24 _ (by decide)⟩)
  generalize (B148 0 0 0 S) = R7 at f ⊢
  generalize (A148 0 0 0 S) = r at f ⊢
  obtain ⟨w7, ⟨x7, y7, z7, v7⟩, s7⟩ := f
  refine zH_pre (zr_0 i325_169 kc_m1 (zt_rfl)) ?_
  have hc : (r = (-1)) := s7
  refine zH_pre (zt_cast (zr_19_1 i325_170 (fun _ => zt_rfl) (fun _ => zt_rfl)) (if_pos hc)) ?_
  clear hc
  refine zH_pre (zr_2_0 i325_171 (zr_0 i325_172 kc_1 (zr_0 i325_173 kc_1 (zr_0 i325_174 kc_1 (zt_rfl))))) ?_
  have hP : jP148 1 1 1 R7 := ⟨jI_n (by omega) w7.1, (by decide)⟩
  refine zH_call (zs_21_3 i325_175 na_148 ob_0 rfl) (y148 1 1 1 R7 hP) ?_
  have f := (show jLaw 0 (B148 1 1 1 R7) ∧ ((∀ j, ¬ j = (((1 : Int32) * 6) + 1).toNatClampNeg → (B148 1 1 1 R7) 24 j = R7 24 j) ∧ (B148 1 1 1 R7) 25 = R7 25 ∧ (B148 1 1 1 R7) 26 = R7 26 ∧ (B148 1 1 1 R7) 27 = R7 27) ∧ (A148 1 1 1 R7) = -1 from ⟨(jv148 w7 (by decide) (by decide) (by decide)).1, jal _ _ _, (x7 _ (by decide)).trans (h24 _ (by decide))⟩)
  generalize (B148 1 1 1 R7) = R8 at f ⊢
  generalize (A148 1 1 1 R7) = r at f ⊢
  obtain ⟨w8, ⟨x8, y8, z8, v8⟩, s8⟩ := f
  refine zH_pre (zr_0 i325_176 kc_m1 (zt_rfl)) ?_
  have hc : (r = (-1)) := s8
  refine zH_pre (zt_cast (zr_19_1 i325_177 (fun _ => zt_rfl) (fun _ => zt_rfl)) (if_pos hc)) ?_
  clear hc
  refine zH_pre (zr_2_0 i325_178 (zr_0 i325_179 kc_2 (zr_0 i325_180 kc_5 (zr_0 i325_181 kc_7 (zt_rfl))))) ?_
  have hP : jP148 2 5 7 R8 := ⟨jI_n (by omega) w8.1, (by decide)⟩
  refine zH_call (zs_21_3 i325_182 na_148 ob_0 rfl) (y148 2 5 7 R8 hP) ?_
  have f := (show jLaw 0 (B148 2 5 7 R8) ∧ ((∀ j, ¬ j = (((2 : Int32) * 6) + 5).toNatClampNeg → (B148 2 5 7 R8) 24 j = R8 24 j) ∧ (B148 2 5 7 R8) 25 = R8 25 ∧ (B148 2 5 7 R8) 26 = R8 26 ∧ (B148 2 5 7 R8) 27 = R8 27) ∧ (A148 2 5 7 R8) = -1 from ⟨(jv148 w8 (by decide) (by decide) (by decide)).1, jal _ _ _, (x8 _ (by decide)).trans ((x7 _ (by decide)).trans (h24 _ (by decide)))⟩)
  generalize (B148 2 5 7 R8) = R9 at f ⊢
  generalize (A148 2 5 7 R8) = r at f ⊢
  obtain ⟨w9, ⟨x9, y9, z9, v9⟩, s9⟩ := f
  refine zH_pre (zr_0 i325_183 kc_m1 (zt_rfl)) ?_
  have hc : (r = (-1)) := s9
  refine zH_pre (zt_cast (zr_19_1 i325_184 (fun _ => zt_rfl) (fun _ => zt_rfl)) (if_pos hc)) ?_
  clear hc
  have h25 : R9 25 = fun _ => 0 := by rw [y9, y8, y7, h25]
  have h26 : R9 26 = fun _ => 0 := by rw [z9, z8, z7, h26]
  have h27 : R9 27 = fun _ => 0 := by rw [v9, v8, v7, h27]
  exact q325g a _ _ w9 h25 h26 h27
set_option maxRecDepth 100000 in
theorem q325e {L : Nat} (a : Int32) (u5 u6 : Option zV) {S : zS} (h : jB 6 S) : zH L 325 (102, [some (.inr (.inr 0)), some (.inr (.inr 13)), some (.inr (.inr 81)), some (.inl a), some (.inl 1), u5, u6], [], S) (jQ (fun S' => jLaw 0 S')) := by
  obtain ⟨w0, _, g0, h24, h25, h26, h27⟩ := h
  have q0 : S 20 (0 : Int32).toNatClampNeg = 0 := by rw [g0]
  refine zH_pre (zr_1_4 i325_102 (zt_rfl)) ?_
  refine zH_pre (zr_18f_0 i325_103 (by decide) zt_rfl) ?_
  refine zH_pre (zr_2_0 i325_104 (zr_0 i325_105 kc_0 (zr_0 i325_106 kc_8 (zr_0 i325_107 kc_0 (zr_0 i325_108 kc_0 (zr_0 i325_109 kc_15 (zr_0 i325_110 kc_0 (zt_rfl)))))))) ?_
  have hP : jP145 0 8 0 0 15 0 S := ⟨(by rw [q0]; unfold zn; decide), (by decide), (by decide), (by decide), (by rw [q0]; decide)⟩
  refine zH_call (zs_21_6 i325_111 na_145 ob_0 rfl) (y145 0 8 0 0 15 0 S hP) ?_
  have f := (show (jLaw 0 (B145 0 8 0 0 15 0 S) ∧ (B145 0 8 0 0 15 0 S) 20 = upd (S 20) (0 : Int32).toNatClampNeg (0 + 1) ∧ (B145 0 8 0 0 15 0 S) 24 = S 24 ∧ (B145 0 8 0 0 15 0 S) 25 = S 25 ∧ (B145 0 8 0 0 15 0 S) 26 = S 26 ∧ (B145 0 8 0 0 15 0 S) 27 = S 27) ∧ (A145 0 8 0 0 15 0 S) = 1 from ⟨by have z := jrule w0 0 8 0 0 15 0; rw [q0] at z; exact z, by unfold A145; rw [q0]; rfl⟩)
  generalize (B145 0 8 0 0 15 0 S) = R1 at f ⊢
  generalize (A145 0 8 0 0 15 0 S) = r at f ⊢
  obtain ⟨⟨w1, g1, a1, b1, c1, d1⟩, r1⟩ := f
  refine zH_pre (zr_0 i325_112 kc_1 (zt_rfl)) ?_
  have hc : (r = 1) := r1
  refine zH_pre (zt_cast (zr_19_1 i325_113 (fun _ => zt_rfl) (fun _ => zt_rfl)) (if_pos hc)) ?_
  clear hc
  have q1 : R1 20 (1 : Int32).toNatClampNeg = 0 := by rw [g1, g0]; rfl
  refine zH_pre (zr_2_0 i325_114 (zr_0 i325_115 kc_1 (zr_0 i325_116 kc_6 (zr_0 i325_117 kc_7 (zr_0 i325_118 kc_8 (zr_0 i325_119 kc_3 (zr_0 i325_120 kc_0 (zt_rfl)))))))) ?_
  have hP : jP145 1 6 7 8 3 0 R1 := ⟨(by rw [q1]; unfold zn; decide), (by decide), (by decide), (by decide), (by rw [q1]; decide)⟩
  refine zH_call (zs_21_6 i325_121 na_145 ob_0 rfl) (y145 1 6 7 8 3 0 R1 hP) ?_
  have f := (show (jLaw 0 (B145 1 6 7 8 3 0 R1) ∧ (B145 1 6 7 8 3 0 R1) 20 = upd (R1 20) (1 : Int32).toNatClampNeg (0 + 1) ∧ (B145 1 6 7 8 3 0 R1) 24 = R1 24 ∧ (B145 1 6 7 8 3 0 R1) 25 = R1 25 ∧ (B145 1 6 7 8 3 0 R1) 26 = R1 26 ∧ (B145 1 6 7 8 3 0 R1) 27 = R1 27) ∧ (A145 1 6 7 8 3 0 R1) = 1 from ⟨by have z := jrule w1 1 6 7 8 3 0; rw [q1] at z; exact z, by unfold A145; rw [q1]; rfl⟩)
  generalize (B145 1 6 7 8 3 0 R1) = R2 at f ⊢
  generalize (A145 1 6 7 8 3 0 R1) = r at f ⊢
  obtain ⟨⟨w2, g2, a2, b2, c2, d2⟩, r2⟩ := f
  refine zH_pre (zr_0 i325_122 kc_1 (zt_rfl)) ?_
  have hc : (r = 1) := r2
  refine zH_pre (zt_cast (zr_19_1 i325_123 (fun _ => zt_rfl) (fun _ => zt_rfl)) (if_pos hc)) ?_
  clear hc
  have q2 : R2 20 (1 : Int32).toNatClampNeg = 1 := by rw [g2, g1, g0]; rfl
  refine zH_pre (zr_2_0 i325_124 (zr_0 i325_125 kc_1 (zr_0 i325_126 kc_6 (zr_0 i325_127 kc_6 (zr_0 i325_128 kc_6 (zr_0 i325_129 kc_9 (zr_0 i325_130 kc_1 (zt_rfl)))))))) ?_
  have hP : jP145 1 6 6 6 9 1 R2 := ⟨(by rw [q2]; unfold zn; decide), (by decide), (by decide), (by decide), (by rw [q2]; decide)⟩
  refine zH_call (zs_21_6 i325_131 na_145 ob_0 rfl) (y145 1 6 6 6 9 1 R2 hP) ?_
  have f := (show (jLaw 0 (B145 1 6 6 6 9 1 R2) ∧ (B145 1 6 6 6 9 1 R2) 20 = upd (R2 20) (1 : Int32).toNatClampNeg (1 + 1) ∧ (B145 1 6 6 6 9 1 R2) 24 = R2 24 ∧ (B145 1 6 6 6 9 1 R2) 25 = R2 25 ∧ (B145 1 6 6 6 9 1 R2) 26 = R2 26 ∧ (B145 1 6 6 6 9 1 R2) 27 = R2 27) ∧ (A145 1 6 6 6 9 1 R2) = 2 from ⟨by have z := jrule w2 1 6 6 6 9 1; rw [q2] at z; exact z, by unfold A145; rw [q2]; rfl⟩)
  generalize (B145 1 6 6 6 9 1 R2) = R3 at f ⊢
  generalize (A145 1 6 6 6 9 1 R2) = r at f ⊢
  obtain ⟨⟨w3, g3, a3, b3, c3, d3⟩, r3⟩ := f
  refine zH_pre (zr_0 i325_132 kc_2 (zt_rfl)) ?_
  have hc : (r = 2) := r3
  refine zH_pre (zt_cast (zr_19_1 i325_133 (fun _ => zt_rfl) (fun _ => zt_rfl)) (if_pos hc)) ?_
  clear hc
  have q3 : R3 20 (2 : Int32).toNatClampNeg = 0 := by rw [g3, g2, g1, g0]; rfl
  refine zH_pre (zr_2_0 i325_134 (zr_0 i325_135 kc_2 (zr_0 i325_136 kc_6 (zr_0 i325_137 kc_2 (zr_0 i325_138 kc_6 (zr_0 i325_139 kc_0 (zr_0 i325_140 kc_0 (zt_rfl)))))))) ?_
  have hP : jP145 2 6 2 6 0 0 R3 := ⟨(by rw [q3]; unfold zn; decide), (by decide), (by decide), (by decide), (by rw [q3]; decide)⟩
  refine zH_call (zs_21_6 i325_141 na_145 ob_0 rfl) (y145 2 6 2 6 0 0 R3 hP) ?_
  have f := (show (jLaw 0 (B145 2 6 2 6 0 0 R3) ∧ (B145 2 6 2 6 0 0 R3) 20 = upd (R3 20) (2 : Int32).toNatClampNeg (0 + 1) ∧ (B145 2 6 2 6 0 0 R3) 24 = R3 24 ∧ (B145 2 6 2 6 0 0 R3) 25 = R3 25 ∧ (B145 2 6 2 6 0 0 R3) 26 = R3 26 ∧ (B145 2 6 2 6 0 0 R3) 27 = R3 27) ∧ (A145 2 6 2 6 0 0 R3) = 1 from ⟨by have z := jrule w3 2 6 2 6 0 0; rw [q3] at z; exact z, by unfold A145; rw [q3]; rfl⟩)
  generalize (B145 2 6 2 6 0 0 R3) = R4 at f ⊢
  generalize (A145 2 6 2 6 0 0 R3) = r at f ⊢
  obtain ⟨⟨w4, g4, a4, b4, c4, d4⟩, r4⟩ := f
  refine zH_pre (zr_0 i325_142 kc_1 (zt_rfl)) ?_
  have hc : (r = 1) := r4
  refine zH_pre (zt_cast (zr_19_1 i325_143 (fun _ => zt_rfl) (fun _ => zt_rfl)) (if_pos hc)) ?_
  clear hc
  have q4 : R4 20 (3 : Int32).toNatClampNeg = 0 := by rw [g4, g3, g2, g1, g0]; rfl
  refine zH_pre (zr_2_0 i325_144 (zr_0 i325_145 kc_3 (zr_0 i325_146 kc_8 (zr_0 i325_147 kc_0 (zr_0 i325_148 kc_0 (zr_0 i325_149 kc_1 (zr_0 i325_150 kc_2 (zt_rfl)))))))) ?_
  have hP : jP145 3 8 0 0 1 2 R4 := ⟨(by rw [q4]; unfold zn; decide), (by decide), (by decide), (by decide), (by rw [q4]; decide)⟩
  refine zH_call (zs_21_6 i325_151 na_145 ob_0 rfl) (y145 3 8 0 0 1 2 R4 hP) ?_
  have f := (show (jLaw 0 (B145 3 8 0 0 1 2 R4) ∧ (B145 3 8 0 0 1 2 R4) 20 = upd (R4 20) (3 : Int32).toNatClampNeg (0 + 1) ∧ (B145 3 8 0 0 1 2 R4) 24 = R4 24 ∧ (B145 3 8 0 0 1 2 R4) 25 = R4 25 ∧ (B145 3 8 0 0 1 2 R4) 26 = R4 26 ∧ (B145 3 8 0 0 1 2 R4) 27 = R4 27) ∧ (A145 3 8 0 0 1 2 R4) = 1 from ⟨by have z := jrule w4 3 8 0 0 1 2; rw [q4] at z; exact z, by unfold A145; rw [q4]; rfl⟩)
  generalize (B145 3 8 0 0 1 2 R4) = R5 at f ⊢
  generalize (A145 3 8 0 0 1 2 R4) = r at f ⊢
  obtain ⟨⟨w5, g5, a5, b5, c5, d5⟩, r5⟩ := f
  refine zH_pre (zr_0 i325_152 kc_1 (zt_rfl)) ?_
  have hc : (r = 1) := r5
  refine zH_pre (zt_cast (zr_19_1 i325_153 (fun _ => zt_rfl) (fun _ => zt_rfl)) (if_pos hc)) ?_
  clear hc
  have q5 : R5 20 (4 : Int32).toNatClampNeg = 0 := by rw [g5, g4, g3, g2, g1, g0]; rfl
  refine zH_pre (zr_2_0 i325_154 (zr_0 i325_155 kc_4 (zr_0 i325_156 kc_0 (zr_0 i325_157 kc_8 (zr_0 i325_158 kc_0 (zr_0 i325_159 kc_15 (zr_0 i325_160 kc_0 (zt_rfl)))))))) ?_
  have hP : jP145 4 0 8 0 15 0 R5 := ⟨(by rw [q5]; unfold zn; decide), (by decide), (by decide), (by decide), (by rw [q5]; decide)⟩
  refine zH_call (zs_21_6 i325_161 na_145 ob_0 rfl) (y145 4 0 8 0 15 0 R5 hP) ?_
  have f := (show (jLaw 0 (B145 4 0 8 0 15 0 R5) ∧ (B145 4 0 8 0 15 0 R5) 20 = upd (R5 20) (4 : Int32).toNatClampNeg (0 + 1) ∧ (B145 4 0 8 0 15 0 R5) 24 = R5 24 ∧ (B145 4 0 8 0 15 0 R5) 25 = R5 25 ∧ (B145 4 0 8 0 15 0 R5) 26 = R5 26 ∧ (B145 4 0 8 0 15 0 R5) 27 = R5 27) ∧ (A145 4 0 8 0 15 0 R5) = 1 from ⟨by have z := jrule w5 4 0 8 0 15 0; rw [q5] at z; exact z, by unfold A145; rw [q5]; rfl⟩)
  generalize (B145 4 0 8 0 15 0 R5) = R6 at f ⊢
  generalize (A145 4 0 8 0 15 0 R5) = r at f ⊢
  obtain ⟨⟨w6, g6, a6, b6, c6, d6⟩, r6⟩ := f
  refine zH_pre (zr_0 i325_162 kc_1 (zt_rfl)) ?_
  have hc : (r = 1) := r6
  refine zH_pre (zt_cast (zr_19_1 i325_163 (fun _ => zt_rfl) (fun _ => zt_rfl)) (if_pos hc)) ?_
  clear hc
  have h24 : ∀ j, j < 18 → R6 24 j = -1 := by rw [a6, a5, a4, a3, a2, a1]; exact h24
  have h25 : R6 25 = fun _ => 0 := by rw [b6, b5, b4, b3, b2, b1, h25]
  have h26 : R6 26 = fun _ => 0 := by rw [c6, c5, c4, c3, c2, c1, h26]
  have h27 : R6 27 = fun _ => 0 := by rw [d6, d5, d4, d3, d2, d1, h27]
  exact q325f a _ _ w6 h24 h25 h26 h27
set_option maxRecDepth 100000 in
theorem q325r {L : Nat} (a k : Int32) (u6 : Option zV) {S : zS} {j : Nat} (ha : 0 ≤ a.toInt) (h : jB j S) (hj : j ≤ 6) (hk : k = Int32.ofNat j) (IH : ∀ (S1 : zS) (u : Option zV), j < 6 → jB (j + 1) S1 → zH L 325 (54, [some (.inr (.inr 0)), some (.inr (.inr 13)), some (.inr (.inr 81)), some (.inl a), some (.inl 1), some (.inl (k + 1)), u], [], S1) (jQ (fun S2 => jLaw 0 S2))) : zH L 325 (54, [some (.inr (.inr 0)), some (.inr (.inr 13)), some (.inr (.inr 81)), some (.inl a), some (.inl 1), some (.inl k), u6], [], S) (jQ (fun S' => jLaw 0 S')) := by
  have ej : k.toInt = j := by rw [hk]; exact zk_ti j (by omega)
  refine zH_pre (zr_1_5 i325_54 (zr_0 i325_55 kc_6 (zt_rfl))) ?_
  by_cases hd : (6 ≤ k)
  · refine zH_pre (zt_cast (zr_19_3 i325_56 (fun _ => zt_rfl) (fun _ => zt_rfl)) (if_pos hd)) ?_
    have e : j = 6 := by rw [zk_le, jk_6] at hd; omega
    subst e
    exact q325e a _ _ h
  · refine zH_pre (zt_cast (zr_19_3 i325_56 (fun _ => zt_rfl) (fun _ => zt_rfl)) (if_neg hd)) ?_
    have hlt : j < 6 := by rw [zk_le, jk_6] at hd; omega
    have hb := jdv (x := a) (y := 64) ha (by decide)
    have hm := jdv64 ha
    have e1 : ((a / 64) + k).toInt = (a / 64).toInt + k.toInt := by rw [zk_tadd (by omega) (by omega)]
    have h4 := jrem (x := (a / 64) + k) (y := 4) (by rw [e1]; omega) (by decide)
    rw [jk_4] at h4
    have eE : ((zrem ((a / 64) + k) 4) - 1).toInt = (zrem ((a / 64) + k) 4).toInt - 1 := by rw [zk_tsub (by rw [zk_1]; omega) (by rw [zk_1]; omega), zk_1]
    have h3 := jrem (x := k) (y := 3) (by omega) (by decide)
    rw [jk_3] at h3
    have hkn : k.toNatClampNeg = j := by rw [hk]; exact zk_ix j (by omega)
    have h16 : S 16 k.toNatClampNeg = -1 := by rw [hkn]; exact h.2.1 j (Nat.le_refl _) hlt
    have e6 : (6 + k).toInt = 6 + k.toInt := by rw [zk_tadd (by rw [jk_6]; omega) (by rw [jk_6]; omega), jk_6]
    have w := h.1
    skip
    refine zH_pre (zr_1_3 i325_57 (zr_0 i325_58 kc_64 (zr_13_3 i325_59 nz_64 (zr_1_5 i325_60 (zr_13_0 i325_61 (zr_0 i325_62 kc_4 (zr_13_4 i325_63 nz_4 (zr_0 i325_64 kc_1 (zr_13_1 i325_65 (zr_3_6 i325_66 (zr_1_6 i325_67 (zt_rfl)))))))))))) ?_
    by_cases hv : (((zrem ((a / 64) + k) 4) - 1) < 0)
    · refine zH_pre (zt_cast (zr_18_2 i325_68 (fun _ => zt_rfl) (fun _ => zt_rfl)) (if_pos hv)) ?_
      have hv0 : ((zrem ((a / 64) + k) 4) - 1) + 1 = 0 := by have hv1 := zk_lt.mp hv; rw [eE, jk_0] at hv1; exact zk_eq.mpr (by rw [zk_tadd (by rw [eE, zk_1]; omega) (by rw [eE, zk_1]; omega), eE, zk_1, jk_0]; omega)
      have g0 : zx 12 k := by rw [zx_iff]; omega
      refine zH_pre (zr_2_2 i325_81 (zr_1_5 i325_82 (zr_1_6 i325_83 (zr_0 i325_84 kc_1 (zr_13_0 i325_85 (zr_10 i325_86 ar_81 (g0) rfl (zr_2_2 i325_87 (zr_0 i325_88 kc_6 (zr_1_5 i325_89 (zr_13_0 i325_90 (zr_1_6 i325_91 (zr_0 i325_92 kc_1 (zt_rfl))))))))))))) ?_
      have hc : ¬ (((zrem ((a / 64) + k) 4) - 1) = 1) := fun e => by have e9 := congrArg Int32.toInt e; rw [zk_1] at e9; rw [zk_lt, jk_0] at hv; omega
      refine zH_pre (zt_cast (zr_19_1 i325_93 (fun _ => zt_rfl) (fun _ => zt_rfl)) (if_neg hc)) ?_
      clear hc
      have g0 : zx 12 (6 + k) := by rw [zx_iff]; omega
      refine zH_pre (zr_0 i325_98 kc_0 (zr_10 i325_99 ar_81 (g0) rfl (zr_5_5 i325_100 kc_1 (zr_17 i325_101 (zt_rfl))))) ?_
      have f := (show jB (j + 1) (z_up (z_up S 81 k.toNatClampNeg (((zrem ((a / 64) + k) 4) - 1) + 1)) 81 (6 + k).toNatClampNeg 0) from jBn h hlt hk hv0 (by have := zk_nat (x := 6 + k) (by omega); omega))
      generalize (z_up (z_up S 81 k.toNatClampNeg (((zrem ((a / 64) + k) 4) - 1) + 1)) 81 (6 + k).toNatClampNeg 0) = S2 at f ⊢
      have w2 := f
      exact IH S2 _ hlt w2
    · refine zH_pre (zt_cast (zr_18_2 i325_68 (fun _ => zt_rfl) (fun _ => zt_rfl)) (if_neg hv)) ?_
      have hv1 : 0 ≤ ((zrem ((a / 64) + k) 4) - 1).toInt := by rw [zk_lt, jk_0] at hv; omega
      have hdm : zb (((zrem ((a / 64) + k) 4) - 1) = -1) = zb (¬ S 16 k.toNatClampNeg = -1) := ((zb_0 _).mpr (fun e => by rw [e, jk_m1] at hv1; omega)).trans ((zb_0 _).mpr (fun e => e h16)).symm
      refine zH_pre (zr_2_0 i325_69 (zr_1_5 i325_70 (zr_1_6 i325_71 (zr_1_6 i325_72 (zr_0 i325_73 kc_1 (zt_rfl)))))) ?_
      by_cases he : (((zrem ((a / 64) + k) 4) - 1) = 1)
      · refine zH_pre (zt_cast (zr_19_1 i325_74 (fun _ => zt_rfl) (fun _ => zt_rfl)) (if_pos he)) ?_
        refine zH_pre (zr_1_5 i325_75 (zr_0 i325_76 kc_3 (zr_13_4 i325_77 nz_3 (zr_17 i325_78 (zt_rfl))))) ?_
        have hP : jP143 k ((zrem ((a / 64) + k) 4) - 1) (zrem k 3) S := ⟨jI_n (by omega) w.1, (by rw [if_pos he]; simp only [zk_lt, zk_le, jk_m1, zk_1, jk_0, jk_2, jk_3, jk_4, jk_5, jk_6, jk_7, jk_8, jk_10, jk_11, jk_13, jk_14, jk_15, jk_16, jk_18, jk_20, jk_24, jk_25, jk_36, jk_40, jk_50, jk_64, jk_72, jk_100, jk_120, jk_200, jk_201, jk_216, jk_255, jk_256, jk_257, jk_512, jk_1000, jk_2048, jk_9999, jk_10000, jk_65521, jk_65536, jk_104729, jk_2147483647, jk_m1, jk_m2, jk_m3, jk_m4, jk_m5, jk_m6, jk_m7, jk_m8, jk_m9, jk_m10, jk_m11, jk_m12, jk_m13, jk_m14]; omega), hdm⟩
        refine zH_calln (zs_21_3 i325_80 na_143 ob_0 rfl) (y143 k ((zrem ((a / 64) + k) 4) - 1) (zrem k 3) S hP) ?_
        have g0 : zx 12 k := by rw [zx_iff]; omega
        refine zH_pre (zr_2_2 i325_81 (zr_1_5 i325_82 (zr_1_6 i325_83 (zr_0 i325_84 kc_1 (zr_13_0 i325_85 (zr_10 i325_86 ar_81 (g0) rfl (zr_2_2 i325_87 (zr_0 i325_88 kc_6 (zr_1_5 i325_89 (zr_13_0 i325_90 (zr_1_6 i325_91 (zr_0 i325_92 kc_1 (zt_rfl))))))))))))) ?_
        have hc : (((zrem ((a / 64) + k) 4) - 1) = 1) := he
        refine zH_pre (zt_cast (zr_19_1 i325_93 (fun _ => zt_rfl) (fun _ => zt_rfl)) (if_pos hc)) ?_
        clear hc
        have g0 : zx 12 (6 + k) := by rw [zx_iff]; omega
        refine zH_pre (zr_1_5 i325_94 (zr_0 i325_95 kc_3 (zr_13_4 i325_96 nz_3 (zr_17 i325_97 (zr_10 i325_99 ar_81 (g0) rfl (zr_5_5 i325_100 kc_1 (zr_17 i325_101 (zt_rfl)))))))) ?_
        have f := (show jB (j + 1) (z_up (z_up (B143 k ((zrem ((a / 64) + k) 4) - 1) (zrem k 3) S) 81 k.toNatClampNeg (((zrem ((a / 64) + k) 4) - 1) + 1)) 81 (6 + k).toNatClampNeg (zrem k 3)) from jBm h hlt hk (by omega) (by rw [zx_iff]; omega) (by have := zk_nat (x := 6 + k) (by omega); omega))
        generalize (z_up (z_up (B143 k ((zrem ((a / 64) + k) 4) - 1) (zrem k 3) S) 81 k.toNatClampNeg (((zrem ((a / 64) + k) 4) - 1) + 1)) 81 (6 + k).toNatClampNeg (zrem k 3)) = S2 at f ⊢
        have w2 := f
        exact IH S2 _ hlt w2
      · refine zH_pre (zt_cast (zr_19_1 i325_74 (fun _ => zt_rfl) (fun _ => zt_rfl)) (if_neg he)) ?_
        refine zH_pre (zr_0 i325_79 kc_0 (zt_rfl)) ?_
        have hP : jP143 k ((zrem ((a / 64) + k) 4) - 1) 0 S := ⟨jI_n (by omega) w.1, (by rw [if_neg he]; simp only [zk_lt, zk_le, jk_m1, zk_1, jk_0, jk_2, jk_3, jk_4, jk_5, jk_6, jk_7, jk_8, jk_10, jk_11, jk_13, jk_14, jk_15, jk_16, jk_18, jk_20, jk_24, jk_25, jk_36, jk_40, jk_50, jk_64, jk_72, jk_100, jk_120, jk_200, jk_201, jk_216, jk_255, jk_256, jk_257, jk_512, jk_1000, jk_2048, jk_9999, jk_10000, jk_65521, jk_65536, jk_104729, jk_2147483647, jk_m1, jk_m2, jk_m3, jk_m4, jk_m5, jk_m6, jk_m7, jk_m8, jk_m9, jk_m10, jk_m11, jk_m12, jk_m13, jk_m14]; omega), hdm⟩
        refine zH_calln (zs_21_3 i325_80 na_143 ob_0 rfl) (y143 k ((zrem ((a / 64) + k) 4) - 1) 0 S hP) ?_
        have g0 : zx 12 k := by rw [zx_iff]; omega
        refine zH_pre (zr_2_2 i325_81 (zr_1_5 i325_82 (zr_1_6 i325_83 (zr_0 i325_84 kc_1 (zr_13_0 i325_85 (zr_10 i325_86 ar_81 (g0) rfl (zr_2_2 i325_87 (zr_0 i325_88 kc_6 (zr_1_5 i325_89 (zr_13_0 i325_90 (zr_1_6 i325_91 (zr_0 i325_92 kc_1 (zt_rfl))))))))))))) ?_
        have hc : ¬ (((zrem ((a / 64) + k) 4) - 1) = 1) := he
        refine zH_pre (zt_cast (zr_19_1 i325_93 (fun _ => zt_rfl) (fun _ => zt_rfl)) (if_neg hc)) ?_
        clear hc
        have g0 : zx 12 (6 + k) := by rw [zx_iff]; omega
        refine zH_pre (zr_0 i325_98 kc_0 (zr_10 i325_99 ar_81 (g0) rfl (zr_5_5 i325_100 kc_1 (zr_17 i325_101 (zt_rfl))))) ?_
        have f := (show jB (j + 1) (z_up (z_up (B143 k ((zrem ((a / 64) + k) 4) - 1) 0 S) 81 k.toNatClampNeg (((zrem ((a / 64) + k) 4) - 1) + 1)) 81 (6 + k).toNatClampNeg 0) from jBm h hlt hk (by omega) (by unfold zx; decide) (by have := zk_nat (x := 6 + k) (by omega); omega))
        generalize (z_up (z_up (B143 k ((zrem ((a / 64) + k) 4) - 1) 0 S) 81 k.toNatClampNeg (((zrem ((a / 64) + k) 4) - 1) + 1)) 81 (6 + k).toNatClampNeg 0) = S2 at f ⊢
        have w2 := f
        exact IH S2 _ hlt w2
set_option maxRecDepth 100000 in
theorem q325l {L : Nat} {a : Int32} (ha : 0 ≤ a.toInt) : ∀ (r j : Nat) (S : zS) (u : Option zV), j + r = 6 → jB j S → zH L 325 (54, [some (.inr (.inr 0)), some (.inr (.inr 13)), some (.inr (.inr 81)), some (.inl a), some (.inl 1), some (.inl (Int32.ofNat j)), u], [], S) (jQ (fun S2 => jLaw 0 S2))
  | 0, j, S, u, hr, h => q325r _ _ _ ha h (by omega) rfl (fun S1 u hlt => absurd hlt (by omega))
  | r + 1, j, S, u, hr, h => q325r _ _ _ ha h (by omega) rfl (fun S1 u _ h2 => by
      have := q325l (L := L) ha r (j + 1) S1 u (by omega) h2
      rw [← zk_add] at this
      exact this)
set_option maxRecDepth 100000 in
theorem q325 {L : Nat} (a : Int32) {S : zS} {X : Nat → Int32} (hS : S = z0 X) (ha : 0 ≤ a.toInt) : ∃ S', zf L 325 [.inr (.inr 0), .inr (.inr 13), .inr (.inr 81), .inl a] S (.inl (some (.inl 1)), S', 0) ∧ jLaw 0 S' := by
  refine zH_f (en_325 _ _ _ _) ?_
  have h6 := jrem (x := a) (y := 6) ha (by decide)
  rw [jk_6] at h6
  have e1 : (1 + (zrem a 6)).toInt = 1 + (zrem a 6).toInt := jp1 h6 (by decide)
  have hd6 := jdv (x := a) (y := 6) ha (by decide)
  have hne : ¬ (1 + (zrem a 6)) = 0 := fun e => by have e9 := congrArg Int32.toInt e; rw [e1, jk_0] at e9; omega
  have hr := jrem (x := a / 6) (y := 1 + (zrem a 6)) hd6.1 (by omega)
  have e2 : (1 + (zrem (a / 6) (1 + (zrem a 6)))).toInt = 1 + (zrem (a / 6) (1 + (zrem a 6))).toInt := jp1 (m := 7) ⟨hr.1, by omega⟩ (by decide)
  have h16 := jrem (x := a) (y := 65536) ha (by decide)
  rw [jk_65536] at h16
  have g0 : (¬ ((1 + (zrem a 6)) = 0)) := hne
  refine zH_pre (zr_2_1 i325_0 (zr_0 i325_1 kc_6 (zr_0 i325_2 kc_1 (zr_1_3 i325_3 (zr_0 i325_4 kc_6 (zr_13_4 i325_5 nz_6 (zr_13_0 i325_6 (zr_10 i325_7 ar_13 (zx_9_6) kt_6 (zr_2_1 i325_8 (zr_0 i325_9 kc_7 (zr_0 i325_10 kc_1 (zr_1_3 i325_11 (zr_0 i325_12 kc_6 (zr_13_3 i325_13 nz_6 (zr_2_1 i325_14 (zr_0 i325_15 kc_6 (zr_8 i325_16 ar_13 (zx_9_6) kt_6 (zup_s _ _ _ _) (zr_13_4 i325_17 (g0) (zr_13_0 i325_18 (zr_10 i325_19 ar_13 (zx_9_7) kt_7 (zr_2_0 i325_20 (zr_1_3 i325_21 (zr_0 i325_22 kc_65536 (zr_13_4 i325_23 nz_65536 (zr_2_1 i325_24 (zr_0 i325_25 kc_6 (zr_8 i325_26 ar_13 (zx_9_6) kt_6 ((zupf rfl).trans (zup_s _ _ _ _)) (zr_2_1 i325_27 (zr_0 i325_28 kc_7 (zr_8 i325_29 ar_13 (zx_9_7) kt_7 (zup_s _ _ _ _) (zt_rfl))))))))))))))))))))))))))))))) ?_
  have hP : jP131 (zrem a 65536) (1 + (zrem a 6)) (1 + (zrem (a / 6) (1 + (zrem a 6)))) (z_up (z_up S 13 6 (1 + (zrem a 6))) 13 7 (1 + (zrem (a / 6) (1 + (zrem a 6))))) := ⟨(by rw [hS]; rfl), (by simp only [zk_lt, zk_le, jk_65535b, zk_1, jk_0, jk_2, jk_3, jk_4, jk_5, jk_6, jk_7, jk_8, jk_10, jk_11, jk_13, jk_14, jk_15, jk_16, jk_18, jk_20, jk_24, jk_25, jk_36, jk_40, jk_50, jk_64, jk_72, jk_100, jk_120, jk_200, jk_201, jk_216, jk_255, jk_256, jk_257, jk_512, jk_1000, jk_2048, jk_9999, jk_10000, jk_65521, jk_65536, jk_104729, jk_2147483647, jk_m1, jk_m2, jk_m3, jk_m4, jk_m5, jk_m6, jk_m7, jk_m8, jk_m9, jk_m10, jk_m11, jk_m12, jk_m13, jk_m14]; omega), (by rw [hS]; show ¬¬ ((0 : Int32) ≤ 0); decide)⟩
  refine zH_calln (zs_21_3 i325_30 na_131 ob_0 rfl) (y131 (zrem a 65536) (1 + (zrem a 6)) (1 + (zrem (a / 6) (1 + (zrem a 6)))) (z_up (z_up S 13 6 (1 + (zrem a 6))) 13 7 (1 + (zrem (a / 6) (1 + (zrem a 6))))) hP) ?_
  have f := (show jB 0 (B131 (zrem a 65536) (1 + (zrem a 6)) (1 + (zrem (a / 6) (1 + (zrem a 6)))) (z_up (z_up S 13 6 (1 + (zrem a 6))) 13 7 (1 + (zrem (a / 6) (1 + (zrem a 6)))))) ∧ (B131 (zrem a 65536) (1 + (zrem a 6)) (1 + (zrem (a / 6) (1 + (zrem a 6)))) (z_up (z_up S 13 6 (1 + (zrem a 6))) 13 7 (1 + (zrem (a / 6) (1 + (zrem a 6)))))) 1 6 = 0 ∧ (B131 (zrem a 65536) (1 + (zrem a 6)) (1 + (zrem (a / 6) (1 + (zrem a 6)))) (z_up (z_up S 13 6 (1 + (zrem a 6))) 13 7 (1 + (zrem (a / 6) (1 + (zrem a 6)))))) 2 0 = 1 from by rw [hS]; exact jfirst (by omega) (by omega) (by omega))
  generalize (B131 (zrem a 65536) (1 + (zrem a 6)) (1 + (zrem (a / 6) (1 + (zrem a 6)))) (z_up (z_up S 13 6 (1 + (zrem a 6))) 13 7 (1 + (zrem (a / 6) (1 + (zrem a 6)))))) = S1 at f ⊢
  obtain ⟨w1, k6, k20⟩ := f
  refine zH_pre (zr_2_0 i325_31 (zt_rfl)) ?_
  have hP : jP135  S1 := jI_n (by omega) w1.1.1
  refine zH_call (zs_21_0 i325_32 na_135 ob_0 rfl) (y135  S1 hP) ?_
  have f := (show (A135 S1) = 0 from k6)
  generalize (A135 S1) = r at f ⊢
  have hc : (r = 0) := f
  refine zH_pre (zt_cast (zr_18_1 i325_33 (fun _ => zt_rfl) (fun _ => zt_rfl)) (if_pos hc)) ?_
  clear hc
  refine zH_pre (zr_2_0 i325_34 (zt_rfl)) ?_
  have hP : jP142  S1 := jI_n (by omega) w1.1.1
  refine zH_call (zs_21_0 i325_35 na_142 ob_0 rfl) (y142  S1 hP) ?_
  have f := (show (A142 S1) = 1 from k20)
  generalize (A142 S1) = r at f ⊢
  refine zH_pre (zr_0 i325_36 kc_1 (zt_rfl)) ?_
  have hc : (r = 1) := f
  refine zH_pre (zt_cast (zr_19_1 i325_37 (fun _ => zt_rfl) (fun _ => zt_rfl)) (if_pos hc)) ?_
  clear hc
  refine zH_pre (zr_0 i325_38 kc_1 (zr_17 i325_39 (zr_3_4 i325_41 (zr_1_4 i325_42 (zt_rfl))))) ?_
  refine zH_pre (zr_18f_0 i325_43 (by decide) zt_rfl) ?_
  refine zH_pre (zr_2_0 i325_44 (zr_2_1 i325_45 (zt_rfl))) ?_
  obtain ⟨S2, hz, fz⟩ := q326 (by omega) w1.1.1 k6 (jcx6 w1.1.2.1) (jcx7 w1.1.2.1)
  refine zH_call (zs_22_2 i325_46 na_326 rfl) hz ?_
  obtain ⟨S3, e3, i3, z6, zp⟩ := fz
  have w2 : jB 0 S2 := by rw [e3]; exact jBopn w1 i3 z6 zp
  refine zH_pre (zr_18f_0 i325_47 (by decide) zt_rfl) ?_
  refine zH_pre (zr_0 i325_48 kc_1 (zr_17 i325_49 (zr_3_4 i325_51 (zr_0 i325_52 kc_0 (zr_3_5 i325_53 (zt_rfl)))))) ?_
  exact q325l ha 6 0 S2 _ rfl w2
