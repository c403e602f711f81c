/-! what holds between the class's cells (of S) and the reference's (of T) behind n calls -/
def zNo : Nat → Int32 := fun i => if i < 7 then -1 else 0
def zCnt (f : Nat → Int32) : Int32 := (((((0 + zb (¬ f 1 = -1)) + zb (¬ f 2 = -1)) + zb (¬ f 3 = -1)) + zb (¬ f 4 = -1)) + zb (¬ f 5 = -1)) + zb (¬ f 6 = -1)
/-- an entry of the log, e in the class's rows, k in the reference's -/
def zEnt (S T : zS) (e k : Nat) : Prop := S 55 e = T 96 k ∧ zx 216 (T 96 k) ∧ zn 10000 (T 97 k) ∧ (¬ S 58 e = 0 → T 98 k = -1 ∧ T 99 k = S 57 e ∧ T 100 k = S 58 e) ∧ (S 58 e = 0 → S 56 e = T 97 k ∧ S 57 e = T 98 k ∧ zn 2 (T 98 k))
/-- a kept version's slot -/
def zSlot (p v : Int32) : Nat := (p.toInt * 4 + v.toInt % 4).toNat
/-- what is far, and the log's entries from k on, come to what is in the house -/
def zRepF (n : Nat) (lp lv lt : Nat → Int32) (hL hS : Nat → Int32) : Nat → (Nat → Int32) → (Nat → Int32) → Prop
  | 0, fL, fS => ∀ p, p < 216 → fL p = hL p ∧ ∀ v : Int, 1 ≤ v → v ≤ (hL p).toInt → (hL p).toInt - 4 < v → fS (p * 4 + (v % 4).toNat) = hS (p * 4 + (v % 4).toNat)
  | r + 1, fL, fS => let k := n - (r + 1); let p := (lp k).toNatClampNeg; let v := lv k
    if lt k = -1 then v.toInt = (fL p).toInt + 1 ∧ zRepF n lp lv lt hL hS r (upd fL p v) (upd fS (p * 4 + (v.toInt % 4).toNat) 0)
    else 1 ≤ v.toInt ∧ v.toInt ≤ (fL p).toInt ∧ (fL p).toInt - 4 < v.toInt ∧ ¬ fS (p * 4 + (v.toInt % 4).toNat) = 2 ∧ zRepF n lp lv lt hL hS r fL (upd fS (p * 4 + (v.toInt % 4).toNat) (lt k))
def zRep (n : Nat) (lp lv lt : Nat → Int32) (fL fS hL hS : Nat → Int32) : Prop := zRepF n lp lv lt hL hS n fL fS
def zSeal (S T : zS) : Prop := S 1 0 = T 13 3 ∧ S 1 1 = T 13 4 ∧ S 1 2 = T 13 5 ∧ S 1 6 = T 13 2 ∧ S 1 7 = T 13 9 ∧ S 1 8 = T 13 10 ∧ S 1 9 = T 13 11 ∧ S 1 10 = T 13 12 ∧ S 14 = T 81 ∧ (T 13 2 = 0 → T 13 9 = 0 ∧ S 15 = T 82 ∧ T 83 = zNo) ∧ (¬ T 13 2 = 0 → S 15 = T 83 ∧ T 82 = zNo) ∧ S 1 5 = zCnt (S 15) ∧ (∀ i, i < 7 → -1 ≤ (S 15 i).toInt ∧ (S 15 i).toInt ≤ 256) ∧ S 15 0 = -1 ∧ (∀ i : Nat, i < 7 → (T 13 4).toInt < (i : Int) → S 15 i = -1) ∧ zo (T 13 2) ∧ zo (T 13 9) ∧ zn 6 (T 13 4) ∧ zn 6 (T 13 5) ∧ (zn 6 (T 13 11) ∧ zn 6 (T 13 12)) ∧ (∀ i, 7 ≤ i → S 15 i = 0)
theorem zSeal_c {S T S' T' : zS} (c1_0 : S' 1 0 = S 1 0) (c1_1 : S' 1 1 = S 1 1) (c1_2 : S' 1 2 = S 1 2) (c1_5 : S' 1 5 = S 1 5) (c1_6 : S' 1 6 = S 1 6) (c1_7 : S' 1 7 = S 1 7) (c1_8 : S' 1 8 = S 1 8) (c1_9 : S' 1 9 = S 1 9) (c1_10 : S' 1 10 = S 1 10) (c14 : S' 14 = S 14) (c15 : S' 15 = S 15) (m13_2 : T' 13 2 = T 13 2) (m13_3 : T' 13 3 = T 13 3) (m13_4 : T' 13 4 = T 13 4) (m13_5 : T' 13 5 = T 13 5) (m13_9 : T' 13 9 = T 13 9) (m13_10 : T' 13 10 = T 13 10) (m13_11 : T' 13 11 = T 13 11) (m13_12 : T' 13 12 = T 13 12) (m81 : T' 81 = T 81) (m82 : T' 82 = T 82) (m83 : T' 83 = T 83) (h : zSeal S T) : zSeal S' T' := by
  unfold zSeal at *
  simp only [c1_0, c1_1, c1_2, c1_5, c1_6, c1_7, c1_8, c1_9, c1_10, c14, c15, m13_2, m13_3, m13_4, m13_5, m13_9, m13_10, m13_11, m13_12, m81, m82, m83] at *
  exact h
def zKey (n : Nat) (S T : zS) : Prop := S 2 0 = T 13 13 ∧ S 2 1 = T 13 14 ∧ S 2 2 = T 13 15 ∧ S 2 3 = T 13 18 ∧ S 2 4 = T 13 16 ∧ S 2 5 = T 13 17 ∧ S 0 11 = T 13 1 ∧ zn (50 * n) (T 13 1) ∧ 1 ≤ (T 13 13).toInt ∧ (T 13 13).toInt ≤ 1 + 60 * n
theorem zKey_c {S T S' T' : zS} {n : Nat} (c2_0 : S' 2 0 = S 2 0) (c2_1 : S' 2 1 = S 2 1) (c2_2 : S' 2 2 = S 2 2) (c2_3 : S' 2 3 = S 2 3) (c2_4 : S' 2 4 = S 2 4) (c2_5 : S' 2 5 = S 2 5) (c0_11 : S' 0 11 = S 0 11) (m13_13 : T' 13 13 = T 13 13) (m13_14 : T' 13 14 = T 13 14) (m13_15 : T' 13 15 = T 13 15) (m13_16 : T' 13 16 = T 13 16) (m13_17 : T' 13 17 = T 13 17) (m13_18 : T' 13 18 = T 13 18) (m13_1 : T' 13 1 = T 13 1) (h : zKey n S T) : zKey n S' T' := by
  unfold zKey at *
  simp only [c2_0, c2_1, c2_2, c2_3, c2_4, c2_5, c0_11, m13_13, m13_14, m13_15, m13_16, m13_17, m13_18, m13_1] at *
  exact h
def zEng (S T : zS) : Prop := S 16 = T 84 ∧ S 17 = T 85 ∧ S 18 = T 86 ∧ S 19 = T 87 ∧ zA 6 3 (T 85)
theorem zEng_c {S T S' T' : zS} (c16 : S' 16 = S 16) (c17 : S' 17 = S 17) (c18 : S' 18 = S 18) (c19 : S' 19 = S 19) (m84 : T' 84 = T 84) (m85 : T' 85 = T 85) (m86 : T' 86 = T 86) (m87 : T' 87 = T 87) (h : zEng S T) : zEng S' T' := by
  unfold zEng at *
  simp only [c16, c17, c18, c19, m84, m85, m86, m87] at *
  exact h
def zRul (S T : zS) : Prop := S 20 = T 101 ∧ (∀ r, r < 40 → S 21 (3 * r) = T 102 (5 * r) ∧ S 21 (3 * r + 1) = T 102 (5 * r + 1) ∧ S 21 (3 * r + 2) = T 102 (5 * r + 2) ∧ S 22 r = T 102 (5 * r + 3) ∧ S 23 r = T 102 (5 * r + 4) ∧ zn 8 (T 102 (5 * r)) ∧ zn 8 (T 102 (5 * r + 1)) ∧ zn 8 (T 102 (5 * r + 2)) ∧ zn 15 (T 102 (5 * r + 3)) ∧ zn 2 (T 102 (5 * r + 4))) ∧ (∀ p, p < 8 → zn 5 (T 101 p))
theorem zRul_c {S T S' T' : zS} (c20 : S' 20 = S 20) (c21 : S' 21 = S 21) (c22 : S' 22 = S 22) (c23 : S' 23 = S 23) (m101 : T' 101 = T 101) (m102 : T' 102 = T 102) (h : zRul S T) : zRul S' T' := by
  unfold zRul at *
  simp only [c20, c21, c22, c23, m101, m102] at *
  exact h
def zPpl (S T : zS) : Prop := S 24 = T 106 ∧ S 25 = T 103 ∧ S 26 = T 104 ∧ S 27 = T 105 ∧ S 28 = T 107 ∧ S 29 = T 108 ∧ (∀ j, j < 18 → -1 ≤ (T 106 j).toInt ∧ (T 106 j).toInt ≤ 7)
theorem zPpl_c {S T S' T' : zS} (c24 : S' 24 = S 24) (c25 : S' 25 = S 25) (c26 : S' 26 = S 26) (c27 : S' 27 = S 27) (c28 : S' 28 = S 28) (c29 : S' 29 = S 29) (m103 : T' 103 = T 103) (m104 : T' 104 = T 104) (m105 : T' 105 = T 105) (m106 : T' 106 = T 106) (m107 : T' 107 = T 107) (m108 : T' 108 = T 108) (h : zPpl S T) : zPpl S' T' := by
  unfold zPpl at *
  simp only [c24, c25, c26, c27, c28, c29, m103, m104, m105, m106, m107, m108] at *
  exact h
def zTok (S T : zS) : Prop := S 5 0 = T 13 45 ∧ S 30 = T 110 ∧ S 31 = T 109 ∧ S 32 = T 111 ∧ S 33 = T 112 ∧ S 34 = T 113 ∧ S 37 = T 117 ∧ S 38 = T 116 ∧ S 39 = T 118 ∧ S 40 = T 119 ∧ zn 40 (T 13 45) ∧ (∀ j, ¬ T 109 j = 2 → S 35 j = T 114 j) ∧ (∀ j, T 109 j = 2 → T 114 j = 1000000000 ∧ S 36 j = T 115 j ∧ zn 100 (T 115 j)) ∧ (∀ j, j < (T 13 45).toNatClampNeg → T 110 j = -1 ∨ (0 ≤ (T 110 j).toInt ∧ (T 110 j).toInt < (T 13 45).toInt)) ∧ (∀ j, -1 ≤ (T 111 j).toInt ∧ (T 111 j).toInt ≤ 7) ∧ (∀ j, (T 13 45).toNatClampNeg ≤ j → T 119 j = 0) ∧ (∀ j, zo (T 118 j)) ∧ (∀ j, zo (T 119 j)) ∧ (∀ j, -1 ≤ (T 117 j).toInt ∧ (T 117 j).toInt ≤ 20) ∧ zPa 40 40 (T 110)
theorem zTok_c {S T S' T' : zS} (c5_0 : S' 5 0 = S 5 0) (c30 : S' 30 = S 30) (c31 : S' 31 = S 31) (c32 : S' 32 = S 32) (c33 : S' 33 = S 33) (c34 : S' 34 = S 34) (c35 : S' 35 = S 35) (c36 : S' 36 = S 36) (c37 : S' 37 = S 37) (c38 : S' 38 = S 38) (c39 : S' 39 = S 39) (c40 : S' 40 = S 40) (m13_45 : T' 13 45 = T 13 45) (m109 : T' 109 = T 109) (m110 : T' 110 = T 110) (m111 : T' 111 = T 111) (m112 : T' 112 = T 112) (m113 : T' 113 = T 113) (m114 : T' 114 = T 114) (m115 : T' 115 = T 115) (m116 : T' 116 = T 116) (m117 : T' 117 = T 117) (m118 : T' 118 = T 118) (m119 : T' 119 = T 119) (h : zTok S T) : zTok S' T' := by
  unfold zTok at *
  simp only [c5_0, c30, c31, c32, c33, c34, c35, c36, c37, c38, c39, c40, m13_45, m109, m110, m111, m112, m113, m114, m115, m116, m117, m118, m119] at *
  exact h
def zLea (S T : zS) : Prop := S 6 0 = T 13 57 ∧ S 41 = T 120 ∧ S 42 = T 121 ∧ S 43 = T 122 ∧ S 44 = T 123 ∧ S 45 = T 124 ∧ S 46 = T 125 ∧ S 47 = T 126 ∧ S 48 = T 127 ∧ S 49 = T 128 ∧ S 50 = T 129 ∧ zn 40 (T 13 57) ∧ zA 40 40 (T 120) ∧ zA 40 216 (T 121) ∧ zA 40 3 (T 122) ∧ (∀ j, T 125 j = 0 → T 126 j = 0) ∧ (∀ j, T 125 j = 1 → T 126 j = 1 ∨ T 126 j = 2) ∧ (∀ j, j < 3 → zn 2 (T 127 j)) ∧ (∀ j, (T 13 57).toNatClampNeg ≤ j → T 126 j = 0)
theorem zLea_c {S T S' T' : zS} (c6_0 : S' 6 0 = S 6 0) (c41 : S' 41 = S 41) (c42 : S' 42 = S 42) (c43 : S' 43 = S 43) (c44 : S' 44 = S 44) (c45 : S' 45 = S 45) (c46 : S' 46 = S 46) (c47 : S' 47 = S 47) (c48 : S' 48 = S 48) (c49 : S' 49 = S 49) (c50 : S' 50 = S 50) (m13_57 : T' 13 57 = T 13 57) (m120 : T' 120 = T 120) (m121 : T' 121 = T 121) (m122 : T' 122 = T 122) (m123 : T' 123 = T 123) (m124 : T' 124 = T 124) (m125 : T' 125 = T 125) (m126 : T' 126 = T 126) (m127 : T' 127 = T 127) (m128 : T' 128 = T 128) (m129 : T' 129 = T 129) (h : zLea S T) : zLea S' T' := by
  unfold zLea at *
  simp only [c6_0, c41, c42, c43, c44, c45, c46, c47, c48, c49, c50, m13_57, m120, m121, m122, m123, m124, m125, m126, m127, m128, m129] at *
  exact h
def zLT (S T : zS) : Prop := (∀ j, j < (T 13 57).toNatClampNeg → T 125 j = 0 → T 119 (T 120 j).toNatClampNeg = 0 ∧ (T 120 j).toInt < (T 13 45).toInt)
theorem zLT_c {S T S' T' : zS} (m13_57 : T' 13 57 = T 13 57) (m13_45 : T' 13 45 = T 13 45) (m119 : T' 119 = T 119) (m120 : T' 120 = T 120) (m125 : T' 125 = T 125) (h : zLT S T) : zLT S' T' := by
  unfold zLT at *
  simp only [m13_57, m13_45, m119, m120, m125] at *
  exact h
def zUse (S T : zS) : Prop := (∀ j, j < (T 13 45).toNatClampNeg → T 119 j = 0 → ¬ T 117 j = 0)
theorem zUse_c {S T S' T' : zS} (m13_45 : T' 13 45 = T 13 45) (m117 : T' 117 = T 117) (m119 : T' 119 = T 119) (h : zUse S T) : zUse S' T' := by
  unfold zUse at *
  simp only [m13_45, m117, m119] at *
  exact h
def zSto (n : Nat) (S T : zS) : Prop := S 51 = T 88 ∧ S 53 = T 90 ∧ S 54 = T 91 ∧ (∀ i, ¬ T 91 i = 2 → S 52 i = T 89 i) ∧ (∀ j, j < 216 → zn n (T 88 j)) ∧ (∀ i, zn 9999 (T 89 i)) ∧ (∀ i, zn 2 (T 91 i))
theorem zSto_c {S T S' T' : zS} {n : Nat} (c51 : S' 51 = S 51) (c52 : S' 52 = S 52) (c53 : S' 53 = S 53) (c54 : S' 54 = S 54) (m88 : T' 88 = T 88) (m89 : T' 89 = T 89) (m90 : T' 90 = T 90) (m91 : T' 91 = T 91) (h : zSto n S T) : zSto n S' T' := by
  unfold zSto at *
  simp only [c51, c52, c53, c54, m88, m89, m90, m91] at *
  exact h
def zFar (n : Nat) (S T : zS) : Prop := S 59 = T 92 ∧ S 61 = T 94 ∧ S 62 = T 95 ∧ (∀ i, ¬ T 95 i = 2 → S 60 i = T 93 i) ∧ (∀ j, j < 216 → zn n (T 92 j))
theorem zFar_c {S T S' T' : zS} {n : Nat} (c59 : S' 59 = S 59) (c60 : S' 60 = S 60) (c61 : S' 61 = S 61) (c62 : S' 62 = S 62) (m92 : T' 92 = T 92) (m93 : T' 93 = T 93) (m94 : T' 94 = T 94) (m95 : T' 95 = T 95) (h : zFar n S T) : zFar n S' T' := by
  unfold zFar at *
  simp only [c59, c60, c61, c62, m92, m93, m94, m95] at *
  exact h
def zLog (n : Nat) (S T : zS) : Prop := zn n (S 8 5) ∧ zn n (S 8 6) ∧ (S 8 6).toInt ≤ (S 8 5).toInt ∧ T 13 36 = S 8 5 - S 8 6 ∧ zA 512 216 (S 55) ∧ zA 600 216 (T 96) ∧ (∀ k, k < 600 → zn 10000 (T 97 k)) ∧ (∀ k, k < (T 13 36).toNatClampNeg → zEnt S T ((S 8 6).toNatClampNeg + k) k) ∧ zRep (T 13 36).toNatClampNeg (fun k => T 96 k) (fun k => T 97 k) (fun k => T 98 k) (S 59) (S 62) (S 51) (S 54)
theorem zLog_c {S T S' T' : zS} {n : Nat} (c8_5 : S' 8 5 = S 8 5) (c8_6 : S' 8 6 = S 8 6) (c55 : S' 55 = S 55) (c56 : S' 56 = S 56) (c57 : S' 57 = S 57) (c58 : S' 58 = S 58) (c51 : S' 51 = S 51) (c54 : S' 54 = S 54) (c59 : S' 59 = S 59) (c62 : S' 62 = S 62) (m13_36 : T' 13 36 = T 13 36) (m96 : T' 96 = T 96) (m97 : T' 97 = T 97) (m98 : T' 98 = T 98) (m99 : T' 99 = T 99) (m100 : T' 100 = T 100) (h : zLog n S T) : zLog n S' T' := by
  unfold zLog at *
  simp only [zEnt, c8_5, c8_6, c55, c56, c57, c58, c51, c54, c59, c62, m13_36, m96, m97, m98, m99, m100] at *
  exact h
def zWra (S T : zS) : Prop := S 10 0 = T 13 68 ∧ S 63 = T 130 ∧ S 64 = T 131 ∧ S 65 = T 132 ∧ zn 20 (T 13 68) ∧ (∀ j, (T 13 68).toNatClampNeg ≤ j → T 132 j = 0)
theorem zWra_c {S T S' T' : zS} (c10_0 : S' 10 0 = S 10 0) (c63 : S' 63 = S 63) (c64 : S' 64 = S 64) (c65 : S' 65 = S 65) (m13_68 : T' 13 68 = T 13 68) (m130 : T' 130 = T 130) (m131 : T' 131 = T 131) (m132 : T' 132 = T 132) (h : zWra S T) : zWra S' T' := by
  unfold zWra at *
  simp only [c10_0, c63, c64, c65, m13_68, m130, m131, m132] at *
  exact h
def zCas (S T : zS) : Prop := S 10 4 = T 13 72 ∧ S 66 = T 133 ∧ S 67 = T 134 ∧ S 68 = T 135 ∧ S 69 = T 136 ∧ S 70 = T 137 ∧ S 71 = T 138 ∧ zn 20 (T 13 72) ∧ (∀ j, (T 13 72).toNatClampNeg ≤ j → T 137 j = 0 ∧ T 138 j = 0) ∧ (∀ j, j < (T 13 72).toNatClampNeg → 0 ≤ (T 133 j).toInt ∧ (T 133 j).toInt < (T 13 45).toInt) ∧ zA 20 216 (T 134) ∧ (∀ j, j < 20 → zn 9999 (T 135 j)) ∧ (∀ j, j < 20 → zn 255 (T 137 j)) ∧ (∀ j, j < 20 → zo (T 138 j))
theorem zCas_c {S T S' T' : zS} (c10_4 : S' 10 4 = S 10 4) (c66 : S' 66 = S 66) (c67 : S' 67 = S 67) (c68 : S' 68 = S 68) (c69 : S' 69 = S 69) (c70 : S' 70 = S 70) (c71 : S' 71 = S 71) (m13_72 : T' 13 72 = T 13 72) (m133 : T' 133 = T 133) (m134 : T' 134 = T 134) (m135 : T' 135 = T 135) (m136 : T' 136 = T 136) (m137 : T' 137 = T 137) (m138 : T' 138 = T 138) (m13_45 : T' 13 45 = T 13 45) (h : zCas S T) : zCas S' T' := by
  unfold zCas at *
  simp only [c10_4, c66, c67, c68, c69, c70, c71, m13_72, m133, m134, m135, m136, m137, m138, m13_45] at *
  exact h
def zCer (S T : zS) : Prop := S 11 0 = T 13 79 ∧ S 72 = T 140 ∧ S 73 = T 141 ∧ S 74 = T 139 ∧ S 75 = T 142 ∧ S 76 = T 143 ∧ zn 30 (T 13 79) ∧ (∀ c, c < (T 13 79).toNatClampNeg → 0 ≤ (T 139 c).toInt ∧ (T 139 c).toInt ≤ c ∧ T 139 (T 139 c).toNatClampNeg = T 139 c) ∧ (∀ c, c < (T 13 79).toNatClampNeg → zx 216 (T 140 c) ∧ (zrem (T 140 c) 6 = 0 → T 139 c = Int32.ofNat c)) ∧ (∀ c, zo (T 142 c)) ∧ (∀ c, zo (T 143 c))
theorem zCer_c {S T S' T' : zS} (c11_0 : S' 11 0 = S 11 0) (c72 : S' 72 = S 72) (c73 : S' 73 = S 73) (c74 : S' 74 = S 74) (c75 : S' 75 = S 75) (c76 : S' 76 = S 76) (m13_79 : T' 13 79 = T 13 79) (m139 : T' 139 = T 139) (m140 : T' 140 = T 140) (m141 : T' 141 = T 141) (m142 : T' 142 = T 142) (m143 : T' 143 = T 143) (h : zCer S T) : zCer S' T' := by
  unfold zCer at *
  simp only [c11_0, c72, c73, c74, c75, c76, m13_79, m139, m140, m141, m142, m143] at *
  exact h
def zSin (S T : zS) : Prop := S 77 = T 144 ∧ S 78 = T 145 ∧ S 79 = T 146 ∧ S 80 = T 147 ∧ (∀ j, zo (T 144 j)) ∧ (∀ j, zo (T 145 j))
theorem zSin_c {S T S' T' : zS} (c77 : S' 77 = S 77) (c78 : S' 78 = S 78) (c79 : S' 79 = S 79) (c80 : S' 80 = S 80) (m144 : T' 144 = T 144) (m145 : T' 145 = T 145) (m146 : T' 146 = T 146) (m147 : T' 147 = T 147) (h : zSin S T) : zSin S' T' := by
  unfold zSin at *
  simp only [c77, c78, c79, c80, m144, m145, m146, m147] at *
  exact h
def zmem : List Nat → Nat → Bool
  | [], _ => false
  | a :: l, c => Nat.beq a c || zmem l c
def zsub : List Nat → List Nat → Bool
  | [], _ => true
  | a :: l, k => zmem k a && zsub l k
theorem zsub_mem {c : Nat} {k : List Nat} : ∀ {l : List Nat}, zsub l k = true → zmem k c = false → zmem l c = false
  | [], _, _ => rfl
  | a :: l, h, hk => by
    unfold zsub at h
    rw [Bool.and_eq_true] at h
    unfold zmem
    rw [zsub_mem h.2 hk, Bool.or_false]
    cases hb : Nat.beq a c with
    | false => rfl
    | true => rw [Nat.eq_of_beq_eq_true hb, hk] at h; exact absurd h.1 (by decide)
/-- what is kept: all cells outside l; of the objects all fields outside fl (cell * 1000 + number) -/
def zkp (l fl : List Nat) (S S' : zS) : Prop := (∀ c, zmem l c = false → S' c = S c) ∧ (∀ c i, Nat.ble 14 c = false → zmem fl (c * 1000 + i) = false → S' c i = S c i)
theorem zkp_S {l fl : List Nat} {S : zS} : zkp l fl S S := ⟨fun _ _ => rfl, fun _ _ _ _ => rfl⟩
theorem zkp_up {l fl : List Nat} {S A : zS} {c i : Nat} {v : Int32} (h : zkp l fl S A) (h1 : zmem l c = true) (h2 : Nat.ble 14 c = true) : zkp l fl S (z_up A c i v) := by
  refine ⟨fun d hd => ?_, fun d j h3 hd => ?_⟩
  · rw [z_up_ne A c i v d (fun e => by rw [e, h1] at hd; exact absurd hd (by decide))]; exact h.1 d hd
  · rw [z_up_ne A c i v d (fun e => by rw [e, h2] at h3; exact absurd h3 (by decide))]; exact h.2 d j h3 hd
theorem zkp_upf {l fl : List Nat} {S A : zS} {c i : Nat} {v : Int32} (h : zkp l fl S A) (h1 : zmem l c = true) (h2 : zmem fl (c * 1000 + i) = true) : zkp l fl S (z_up A c i v) := by
  refine ⟨fun d hd => ?_, fun d j h3 hd => ?_⟩
  · rw [z_up_ne A c i v d (fun e => by rw [e, h1] at hd; exact absurd hd (by decide))]; exact h.1 d hd
  · by_cases hc : d = c
    · subst hc
      rw [z_up_at]; show (if j = i then v else A d j) = S d j; rw [if_neg (fun e => by rw [e, h2] at hd; exact absurd hd (by decide))]; exact h.2 d j h3 hd
    · rw [z_up_ne A c i v d hc]; exact h.2 d j h3 hd
theorem zkp_ite {P : Prop} [Decidable P] {l fl : List Nat} {S A B : zS} (h1 : zkp l fl S A) (h2 : zkp l fl S B) : zkp l fl S (if P then A else B) := by split <;> assumption
theorem zkp_tr {l fl l2 fl2 : List Nat} {S A B : zS} (h1 : zkp l fl S A) (h2 : zkp l2 fl2 A B) (hl : zsub l2 l = true) (hf : zsub fl2 fl = true) : zkp l fl S B :=
  ⟨fun c hc => (h2.1 c (zsub_mem hl hc)).trans (h1.1 c hc), fun c i h3 hc => (h2.2 c i h3 (zsub_mem hf hc)).trans (h1.2 c i h3 hc)⟩
def zSeal_oc (l fl : List Nat) : Bool := true && (zmem fl 1000 == false) && (zmem fl 1001 == false) && (zmem fl 1002 == false) && (zmem fl 1005 == false) && (zmem fl 1006 == false) && (zmem fl 1007 == false) && (zmem fl 1008 == false) && (zmem fl 1009 == false) && (zmem fl 1010 == false) && (zmem l 14 == false) && (zmem l 15 == false)
theorem zSeal_kc {l fl : List Nat} {S T S' : zS} (hd : zSeal_oc l fl = true) : zkp l fl S S' → zSeal S T → zSeal S' T := fun h hr => by
  unfold zSeal_oc at hd
  simp only [Bool.and_eq_true, beq_iff_eq, true_and] at hd
  exact zSeal_c (h.2 1 0 rfl hd.1.1.1.1.1.1.1.1.1.1) (h.2 1 1 rfl hd.1.1.1.1.1.1.1.1.1.2) (h.2 1 2 rfl hd.1.1.1.1.1.1.1.1.2) (h.2 1 5 rfl hd.1.1.1.1.1.1.1.2) (h.2 1 6 rfl hd.1.1.1.1.1.1.2) (h.2 1 7 rfl hd.1.1.1.1.1.2) (h.2 1 8 rfl hd.1.1.1.1.2) (h.2 1 9 rfl hd.1.1.1.2) (h.2 1 10 rfl hd.1.1.2) (h.1 14 hd.1.2) (h.1 15 hd.2) rfl rfl rfl rfl rfl rfl rfl rfl rfl rfl rfl hr
def zSeal_om (l fl : List Nat) : Bool := true && (zmem fl 13002 == false) && (zmem fl 13003 == false) && (zmem fl 13004 == false) && (zmem fl 13005 == false) && (zmem fl 13009 == false) && (zmem fl 13010 == false) && (zmem fl 13011 == false) && (zmem fl 13012 == false) && (zmem l 81 == false) && (zmem l 82 == false) && (zmem l 83 == false)
theorem zSeal_km {l fl : List Nat} {S T T' : zS} (hd : zSeal_om l fl = true) : zkp l fl T T' → zSeal S T → zSeal S T' := fun h hr => by
  unfold zSeal_om at hd
  simp only [Bool.and_eq_true, beq_iff_eq, true_and] at hd
  exact zSeal_c rfl rfl rfl rfl rfl rfl rfl rfl rfl rfl rfl (h.2 13 2 rfl hd.1.1.1.1.1.1.1.1.1.1) (h.2 13 3 rfl hd.1.1.1.1.1.1.1.1.1.2) (h.2 13 4 rfl hd.1.1.1.1.1.1.1.1.2) (h.2 13 5 rfl hd.1.1.1.1.1.1.1.2) (h.2 13 9 rfl hd.1.1.1.1.1.1.2) (h.2 13 10 rfl hd.1.1.1.1.1.2) (h.2 13 11 rfl hd.1.1.1.1.2) (h.2 13 12 rfl hd.1.1.1.2) (h.1 81 hd.1.1.2) (h.1 82 hd.1.2) (h.1 83 hd.2) hr
def zKey_oc (l fl : List Nat) : Bool := true && (zmem fl 2000 == false) && (zmem fl 2001 == false) && (zmem fl 2002 == false) && (zmem fl 2003 == false) && (zmem fl 2004 == false) && (zmem fl 2005 == false) && (zmem fl 11 == false)
theorem zKey_kc {n : Nat} {l fl : List Nat} {S T S' : zS} (hd : zKey_oc l fl = true) : zkp l fl S S' → zKey n S T → zKey n S' T := fun h hr => by
  unfold zKey_oc at hd
  simp only [Bool.and_eq_true, beq_iff_eq, true_and] at hd
  exact zKey_c (h.2 2 0 rfl hd.1.1.1.1.1.1) (h.2 2 1 rfl hd.1.1.1.1.1.2) (h.2 2 2 rfl hd.1.1.1.1.2) (h.2 2 3 rfl hd.1.1.1.2) (h.2 2 4 rfl hd.1.1.2) (h.2 2 5 rfl hd.1.2) (h.2 0 11 rfl hd.2) rfl rfl rfl rfl rfl rfl rfl hr
def zKey_om (l fl : List Nat) : Bool := true && (zmem fl 13013 == false) && (zmem fl 13014 == false) && (zmem fl 13015 == false) && (zmem fl 13016 == false) && (zmem fl 13017 == false) && (zmem fl 13018 == false) && (zmem fl 13001 == false)
theorem zKey_km {n : Nat} {l fl : List Nat} {S T T' : zS} (hd : zKey_om l fl = true) : zkp l fl T T' → zKey n S T → zKey n S T' := fun h hr => by
  unfold zKey_om at hd
  simp only [Bool.and_eq_true, beq_iff_eq, true_and] at hd
  exact zKey_c rfl rfl rfl rfl rfl rfl rfl (h.2 13 13 rfl hd.1.1.1.1.1.1) (h.2 13 14 rfl hd.1.1.1.1.1.2) (h.2 13 15 rfl hd.1.1.1.1.2) (h.2 13 16 rfl hd.1.1.1.2) (h.2 13 17 rfl hd.1.1.2) (h.2 13 18 rfl hd.1.2) (h.2 13 1 rfl hd.2) hr
def zEng_oc (l fl : List Nat) : Bool := true && (zmem l 16 == false) && (zmem l 17 == false) && (zmem l 18 == false) && (zmem l 19 == false)
theorem zEng_kc {l fl : List Nat} {S T S' : zS} (hd : zEng_oc l fl = true) : zkp l fl S S' → zEng S T → zEng S' T := fun h hr => by
  unfold zEng_oc at hd
  simp only [Bool.and_eq_true, beq_iff_eq, true_and] at hd
  exact zEng_c (h.1 16 hd.1.1.1) (h.1 17 hd.1.1.2) (h.1 18 hd.1.2) (h.1 19 hd.2) rfl rfl rfl rfl hr
def zEng_om (l fl : List Nat) : Bool := true && (zmem l 84 == false) && (zmem l 85 == false) && (zmem l 86 == false) && (zmem l 87 == false)
theorem zEng_km {l fl : List Nat} {S T T' : zS} (hd : zEng_om l fl = true) : zkp l fl T T' → zEng S T → zEng S T' := fun h hr => by
  unfold zEng_om at hd
  simp only [Bool.and_eq_true, beq_iff_eq, true_and] at hd
  exact zEng_c rfl rfl rfl rfl (h.1 84 hd.1.1.1) (h.1 85 hd.1.1.2) (h.1 86 hd.1.2) (h.1 87 hd.2) hr
def zRul_oc (l fl : List Nat) : Bool := true && (zmem l 20 == false) && (zmem l 21 == false) && (zmem l 22 == false) && (zmem l 23 == false)
theorem zRul_kc {l fl : List Nat} {S T S' : zS} (hd : zRul_oc l fl = true) : zkp l fl S S' → zRul S T → zRul S' T := fun h hr => by
  unfold zRul_oc at hd
  simp only [Bool.and_eq_true, beq_iff_eq, true_and] at hd
  exact zRul_c (h.1 20 hd.1.1.1) (h.1 21 hd.1.1.2) (h.1 22 hd.1.2) (h.1 23 hd.2) rfl rfl hr
def zRul_om (l fl : List Nat) : Bool := true && (zmem l 101 == false) && (zmem l 102 == false)
theorem zRul_km {l fl : List Nat} {S T T' : zS} (hd : zRul_om l fl = true) : zkp l fl T T' → zRul S T → zRul S T' := fun h hr => by
  unfold zRul_om at hd
  simp only [Bool.and_eq_true, beq_iff_eq, true_and] at hd
  exact zRul_c rfl rfl rfl rfl (h.1 101 hd.1) (h.1 102 hd.2) hr
def zPpl_oc (l fl : List Nat) : Bool := true && (zmem l 24 == false) && (zmem l 25 == false) && (zmem l 26 == false) && (zmem l 27 == false) && (zmem l 28 == false) && (zmem l 29 == false)
theorem zPpl_kc {l fl : List Nat} {S T S' : zS} (hd : zPpl_oc l fl = true) : zkp l fl S S' → zPpl S T → zPpl S' T := fun h hr => by
  unfold zPpl_oc at hd
  simp only [Bool.and_eq_true, beq_iff_eq, true_and] at hd
  exact zPpl_c (h.1 24 hd.1.1.1.1.1) (h.1 25 hd.1.1.1.1.2) (h.1 26 hd.1.1.1.2) (h.1 27 hd.1.1.2) (h.1 28 hd.1.2) (h.1 29 hd.2) rfl rfl rfl rfl rfl rfl hr
def zPpl_om (l fl : List Nat) : Bool := true && (zmem l 103 == false) && (zmem l 104 == false) && (zmem l 105 == false) && (zmem l 106 == false) && (zmem l 107 == false) && (zmem l 108 == false)
theorem zPpl_km {l fl : List Nat} {S T T' : zS} (hd : zPpl_om l fl = true) : zkp l fl T T' → zPpl S T → zPpl S T' := fun h hr => by
  unfold zPpl_om at hd
  simp only [Bool.and_eq_true, beq_iff_eq, true_and] at hd
  exact zPpl_c rfl rfl rfl rfl rfl rfl (h.1 103 hd.1.1.1.1.1) (h.1 104 hd.1.1.1.1.2) (h.1 105 hd.1.1.1.2) (h.1 106 hd.1.1.2) (h.1 107 hd.1.2) (h.1 108 hd.2) hr
def zTok_oc (l fl : List Nat) : Bool := true && (zmem fl 5000 == false) && (zmem l 30 == false) && (zmem l 31 == false) && (zmem l 32 == false) && (zmem l 33 == false) && (zmem l 34 == false) && (zmem l 35 == false) && (zmem l 36 == false) && (zmem l 37 == false) && (zmem l 38 == false) && (zmem l 39 == false) && (zmem l 40 == false)
theorem zTok_kc {l fl : List Nat} {S T S' : zS} (hd : zTok_oc l fl = true) : zkp l fl S S' → zTok S T → zTok S' T := fun h hr => by
  unfold zTok_oc at hd
  simp only [Bool.and_eq_true, beq_iff_eq, true_and] at hd
  exact zTok_c (h.2 5 0 rfl hd.1.1.1.1.1.1.1.1.1.1.1) (h.1 30 hd.1.1.1.1.1.1.1.1.1.1.2) (h.1 31 hd.1.1.1.1.1.1.1.1.1.2) (h.1 32 hd.1.1.1.1.1.1.1.1.2) (h.1 33 hd.1.1.1.1.1.1.1.2) (h.1 34 hd.1.1.1.1.1.1.2) (h.1 35 hd.1.1.1.1.1.2) (h.1 36 hd.1.1.1.1.2) (h.1 37 hd.1.1.1.2) (h.1 38 hd.1.1.2) (h.1 39 hd.1.2) (h.1 40 hd.2) rfl rfl rfl rfl rfl rfl rfl rfl rfl rfl rfl rfl hr
def zTok_om (l fl : List Nat) : Bool := true && (zmem fl 13045 == false) && (zmem l 109 == false) && (zmem l 110 == false) && (zmem l 111 == false) && (zmem l 112 == false) && (zmem l 113 == false) && (zmem l 114 == false) && (zmem l 115 == false) && (zmem l 116 == false) && (zmem l 117 == false) && (zmem l 118 == false) && (zmem l 119 == false)
theorem zTok_km {l fl : List Nat} {S T T' : zS} (hd : zTok_om l fl = true) : zkp l fl T T' → zTok S T → zTok S T' := fun h hr => by
  unfold zTok_om at hd
  simp only [Bool.and_eq_true, beq_iff_eq, true_and] at hd
  exact zTok_c rfl rfl rfl rfl rfl rfl rfl rfl rfl rfl rfl rfl (h.2 13 45 rfl hd.1.1.1.1.1.1.1.1.1.1.1) (h.1 109 hd.1.1.1.1.1.1.1.1.1.1.2) (h.1 110 hd.1.1.1.1.1.1.1.1.1.2) (h.1 111 hd.1.1.1.1.1.1.1.1.2) (h.1 112 hd.1.1.1.1.1.1.1.2) (h.1 113 hd.1.1.1.1.1.1.2) (h.1 114 hd.1.1.1.1.1.2) (h.1 115 hd.1.1.1.1.2) (h.1 116 hd.1.1.1.2) (h.1 117 hd.1.1.2) (h.1 118 hd.1.2) (h.1 119 hd.2) hr
def zLea_oc (l fl : List Nat) : Bool := true && (zmem fl 6000 == false) && (zmem l 41 == false) && (zmem l 42 == false) && (zmem l 43 == false) && (zmem l 44 == false) && (zmem l 45 == false) && (zmem l 46 == false) && (zmem l 47 == false) && (zmem l 48 == false) && (zmem l 49 == false) && (zmem l 50 == false)
theorem zLea_kc {l fl : List Nat} {S T S' : zS} (hd : zLea_oc l fl = true) : zkp l fl S S' → zLea S T → zLea S' T := fun h hr => by
  unfold zLea_oc at hd
  simp only [Bool.and_eq_true, beq_iff_eq, true_and] at hd
  exact zLea_c (h.2 6 0 rfl hd.1.1.1.1.1.1.1.1.1.1) (h.1 41 hd.1.1.1.1.1.1.1.1.1.2) (h.1 42 hd.1.1.1.1.1.1.1.1.2) (h.1 43 hd.1.1.1.1.1.1.1.2) (h.1 44 hd.1.1.1.1.1.1.2) (h.1 45 hd.1.1.1.1.1.2) (h.1 46 hd.1.1.1.1.2) (h.1 47 hd.1.1.1.2) (h.1 48 hd.1.1.2) (h.1 49 hd.1.2) (h.1 50 hd.2) rfl rfl rfl rfl rfl rfl rfl rfl rfl rfl rfl hr
def zLea_om (l fl : List Nat) : Bool := true && (zmem fl 13057 == false) && (zmem l 120 == false) && (zmem l 121 == false) && (zmem l 122 == false) && (zmem l 123 == false) && (zmem l 124 == false) && (zmem l 125 == false) && (zmem l 126 == false) && (zmem l 127 == false) && (zmem l 128 == false) && (zmem l 129 == false)
theorem zLea_km {l fl : List Nat} {S T T' : zS} (hd : zLea_om l fl = true) : zkp l fl T T' → zLea S T → zLea S T' := fun h hr => by
  unfold zLea_om at hd
  simp only [Bool.and_eq_true, beq_iff_eq, true_and] at hd
  exact zLea_c rfl rfl rfl rfl rfl rfl rfl rfl rfl rfl rfl (h.2 13 57 rfl hd.1.1.1.1.1.1.1.1.1.1) (h.1 120 hd.1.1.1.1.1.1.1.1.1.2) (h.1 121 hd.1.1.1.1.1.1.1.1.2) (h.1 122 hd.1.1.1.1.1.1.1.2) (h.1 123 hd.1.1.1.1.1.1.2) (h.1 124 hd.1.1.1.1.1.2) (h.1 125 hd.1.1.1.1.2) (h.1 126 hd.1.1.1.2) (h.1 127 hd.1.1.2) (h.1 128 hd.1.2) (h.1 129 hd.2) hr
def zLT_oc (l fl : List Nat) : Bool := true
theorem zLT_kc {l fl : List Nat} {S T S' : zS} (hd : zLT_oc l fl = true) : zkp l fl S S' → zLT S T → zLT S' T := fun h hr => zLT_c rfl rfl rfl rfl rfl hr
def zLT_om (l fl : List Nat) : Bool := true && (zmem fl 13057 == false) && (zmem fl 13045 == false) && (zmem l 119 == false) && (zmem l 120 == false) && (zmem l 125 == false)
theorem zLT_km {l fl : List Nat} {S T T' : zS} (hd : zLT_om l fl = true) : zkp l fl T T' → zLT S T → zLT S T' := fun h hr => by
  unfold zLT_om at hd
  simp only [Bool.and_eq_true, beq_iff_eq, true_and] at hd
  exact zLT_c (h.2 13 57 rfl hd.1.1.1.1) (h.2 13 45 rfl hd.1.1.1.2) (h.1 119 hd.1.1.2) (h.1 120 hd.1.2) (h.1 125 hd.2) hr
def zUse_oc (l fl : List Nat) : Bool := true
theorem zUse_kc {l fl : List Nat} {S T S' : zS} (hd : zUse_oc l fl = true) : zkp l fl S S' → zUse S T → zUse S' T := fun h hr => zUse_c rfl rfl rfl hr
def zUse_om (l fl : List Nat) : Bool := true && (zmem fl 13045 == false) && (zmem l 117 == false) && (zmem l 119 == false)
theorem zUse_km {l fl : List Nat} {S T T' : zS} (hd : zUse_om l fl = true) : zkp l fl T T' → zUse S T → zUse S T' := fun h hr => by
  unfold zUse_om at hd
  simp only [Bool.and_eq_true, beq_iff_eq, true_and] at hd
  exact zUse_c (h.2 13 45 rfl hd.1.1) (h.1 117 hd.1.2) (h.1 119 hd.2) hr
def zSto_oc (l fl : List Nat) : Bool := true && (zmem l 51 == false) && (zmem l 52 == false) && (zmem l 53 == false) && (zmem l 54 == false)
theorem zSto_kc {n : Nat} {l fl : List Nat} {S T S' : zS} (hd : zSto_oc l fl = true) : zkp l fl S S' → zSto n S T → zSto n S' T := fun h hr => by
  unfold zSto_oc at hd
  simp only [Bool.and_eq_true, beq_iff_eq, true_and] at hd
  exact zSto_c (h.1 51 hd.1.1.1) (h.1 52 hd.1.1.2) (h.1 53 hd.1.2) (h.1 54 hd.2) rfl rfl rfl rfl hr
def zSto_om (l fl : List Nat) : Bool := true && (zmem l 88 == false) && (zmem l 89 == false) && (zmem l 90 == false) && (zmem l 91 == false)
theorem zSto_km {n : Nat} {l fl : List Nat} {S T T' : zS} (hd : zSto_om l fl = true) : zkp l fl T T' → zSto n S T → zSto n S T' := fun h hr => by
  unfold zSto_om at hd
  simp only [Bool.and_eq_true, beq_iff_eq, true_and] at hd
  exact zSto_c rfl rfl rfl rfl (h.1 88 hd.1.1.1) (h.1 89 hd.1.1.2) (h.1 90 hd.1.2) (h.1 91 hd.2) hr
def zFar_oc (l fl : List Nat) : Bool := true && (zmem l 59 == false) && (zmem l 60 == false) && (zmem l 61 == false) && (zmem l 62 == false)
theorem zFar_kc {n : Nat} {l fl : List Nat} {S T S' : zS} (hd : zFar_oc l fl = true) : zkp l fl S S' → zFar n S T → zFar n S' T := fun h hr => by
  unfold zFar_oc at hd
  simp only [Bool.and_eq_true, beq_iff_eq, true_and] at hd
  exact zFar_c (h.1 59 hd.1.1.1) (h.1 60 hd.1.1.2) (h.1 61 hd.1.2) (h.1 62 hd.2) rfl rfl rfl rfl hr
def zFar_om (l fl : List Nat) : Bool := true && (zmem l 92 == false) && (zmem l 93 == false) && (zmem l 94 == false) && (zmem l 95 == false)
theorem zFar_km {n : Nat} {l fl : List Nat} {S T T' : zS} (hd : zFar_om l fl = true) : zkp l fl T T' → zFar n S T → zFar n S T' := fun h hr => by
  unfold zFar_om at hd
  simp only [Bool.and_eq_true, beq_iff_eq, true_and] at hd
  exact zFar_c rfl rfl rfl rfl (h.1 92 hd.1.1.1) (h.1 93 hd.1.1.2) (h.1 94 hd.1.2) (h.1 95 hd.2) hr
def zLog_oc (l fl : List Nat) : Bool := true && (zmem fl 8005 == false) && (zmem fl 8006 == false) && (zmem l 55 == false) && (zmem l 56 == false) && (zmem l 57 == false) && (zmem l 58 == false) && (zmem l 51 == false) && (zmem l 54 == false) && (zmem l 59 == false) && (zmem l 62 == false)
theorem zLog_kc {n : Nat} {l fl : List Nat} {S T S' : zS} (hd : zLog_oc l fl = true) : zkp l fl S S' → zLog n S T → zLog n S' T := fun h hr => by
  unfold zLog_oc at hd
  simp only [Bool.and_eq_true, beq_iff_eq, true_and] at hd
  exact zLog_c (h.2 8 5 rfl hd.1.1.1.1.1.1.1.1.1) (h.2 8 6 rfl hd.1.1.1.1.1.1.1.1.2) (h.1 55 hd.1.1.1.1.1.1.1.2) (h.1 56 hd.1.1.1.1.1.1.2) (h.1 57 hd.1.1.1.1.1.2) (h.1 58 hd.1.1.1.1.2) (h.1 51 hd.1.1.1.2) (h.1 54 hd.1.1.2) (h.1 59 hd.1.2) (h.1 62 hd.2) rfl rfl rfl rfl rfl rfl hr
def zLog_om (l fl : List Nat) : Bool := true && (zmem fl 13036 == false) && (zmem l 96 == false) && (zmem l 97 == false) && (zmem l 98 == false) && (zmem l 99 == false) && (zmem l 100 == false)
theorem zLog_km {n : Nat} {l fl : List Nat} {S T T' : zS} (hd : zLog_om l fl = true) : zkp l fl T T' → zLog n S T → zLog n S T' := fun h hr => by
  unfold zLog_om at hd
  simp only [Bool.and_eq_true, beq_iff_eq, true_and] at hd
  exact zLog_c rfl rfl rfl rfl rfl rfl rfl rfl rfl rfl (h.2 13 36 rfl hd.1.1.1.1.1) (h.1 96 hd.1.1.1.1.2) (h.1 97 hd.1.1.1.2) (h.1 98 hd.1.1.2) (h.1 99 hd.1.2) (h.1 100 hd.2) hr
def zWra_oc (l fl : List Nat) : Bool := true && (zmem fl 10000 == false) && (zmem l 63 == false) && (zmem l 64 == false) && (zmem l 65 == false)
theorem zWra_kc {l fl : List Nat} {S T S' : zS} (hd : zWra_oc l fl = true) : zkp l fl S S' → zWra S T → zWra S' T := fun h hr => by
  unfold zWra_oc at hd
  simp only [Bool.and_eq_true, beq_iff_eq, true_and] at hd
  exact zWra_c (h.2 10 0 rfl hd.1.1.1) (h.1 63 hd.1.1.2) (h.1 64 hd.1.2) (h.1 65 hd.2) rfl rfl rfl rfl hr
def zWra_om (l fl : List Nat) : Bool := true && (zmem fl 13068 == false) && (zmem l 130 == false) && (zmem l 131 == false) && (zmem l 132 == false)
theorem zWra_km {l fl : List Nat} {S T T' : zS} (hd : zWra_om l fl = true) : zkp l fl T T' → zWra S T → zWra S T' := fun h hr => by
  unfold zWra_om at hd
  simp only [Bool.and_eq_true, beq_iff_eq, true_and] at hd
  exact zWra_c rfl rfl rfl rfl (h.2 13 68 rfl hd.1.1.1) (h.1 130 hd.1.1.2) (h.1 131 hd.1.2) (h.1 132 hd.2) hr
def zCas_oc (l fl : List Nat) : Bool := true && (zmem fl 10004 == false) && (zmem l 66 == false) && (zmem l 67 == false) && (zmem l 68 == false) && (zmem l 69 == false) && (zmem l 70 == false) && (zmem l 71 == false)
theorem zCas_kc {l fl : List Nat} {S T S' : zS} (hd : zCas_oc l fl = true) : zkp l fl S S' → zCas S T → zCas S' T := fun h hr => by
  unfold zCas_oc at hd
  simp only [Bool.and_eq_true, beq_iff_eq, true_and] at hd
  exact zCas_c (h.2 10 4 rfl hd.1.1.1.1.1.1) (h.1 66 hd.1.1.1.1.1.2) (h.1 67 hd.1.1.1.1.2) (h.1 68 hd.1.1.1.2) (h.1 69 hd.1.1.2) (h.1 70 hd.1.2) (h.1 71 hd.2) rfl rfl rfl rfl rfl rfl rfl rfl hr
def zCas_om (l fl : List Nat) : Bool := true && (zmem fl 13072 == false) && (zmem l 133 == false) && (zmem l 134 == false) && (zmem l 135 == false) && (zmem l 136 == false) && (zmem l 137 == false) && (zmem l 138 == false) && (zmem fl 13045 == false)
theorem zCas_km {l fl : List Nat} {S T T' : zS} (hd : zCas_om l fl = true) : zkp l fl T T' → zCas S T → zCas S T' := fun h hr => by
  unfold zCas_om at hd
  simp only [Bool.and_eq_true, beq_iff_eq, true_and] at hd
  exact zCas_c rfl rfl rfl rfl rfl rfl rfl (h.2 13 72 rfl hd.1.1.1.1.1.1.1) (h.1 133 hd.1.1.1.1.1.1.2) (h.1 134 hd.1.1.1.1.1.2) (h.1 135 hd.1.1.1.1.2) (h.1 136 hd.1.1.1.2) (h.1 137 hd.1.1.2) (h.1 138 hd.1.2) (h.2 13 45 rfl hd.2) hr
def zCer_oc (l fl : List Nat) : Bool := true && (zmem fl 11000 == false) && (zmem l 72 == false) && (zmem l 73 == false) && (zmem l 74 == false) && (zmem l 75 == false) && (zmem l 76 == false)
theorem zCer_kc {l fl : List Nat} {S T S' : zS} (hd : zCer_oc l fl = true) : zkp l fl S S' → zCer S T → zCer S' T := fun h hr => by
  unfold zCer_oc at hd
  simp only [Bool.and_eq_true, beq_iff_eq, true_and] at hd
  exact zCer_c (h.2 11 0 rfl hd.1.1.1.1.1) (h.1 72 hd.1.1.1.1.2) (h.1 73 hd.1.1.1.2) (h.1 74 hd.1.1.2) (h.1 75 hd.1.2) (h.1 76 hd.2) rfl rfl rfl rfl rfl rfl hr
def zCer_om (l fl : List Nat) : Bool := true && (zmem fl 13079 == false) && (zmem l 139 == false) && (zmem l 140 == false) && (zmem l 141 == false) && (zmem l 142 == false) && (zmem l 143 == false)
theorem zCer_km {l fl : List Nat} {S T T' : zS} (hd : zCer_om l fl = true) : zkp l fl T T' → zCer S T → zCer S T' := fun h hr => by
  unfold zCer_om at hd
  simp only [Bool.and_eq_true, beq_iff_eq, true_and] at hd
  exact zCer_c rfl rfl rfl rfl rfl rfl (h.2 13 79 rfl hd.1.1.1.1.1) (h.1 139 hd.1.1.1.1.2) (h.1 140 hd.1.1.1.2) (h.1 141 hd.1.1.2) (h.1 142 hd.1.2) (h.1 143 hd.2) hr
def zSin_oc (l fl : List Nat) : Bool := true && (zmem l 77 == false) && (zmem l 78 == false) && (zmem l 79 == false) && (zmem l 80 == false)
theorem zSin_kc {l fl : List Nat} {S T S' : zS} (hd : zSin_oc l fl = true) : zkp l fl S S' → zSin S T → zSin S' T := fun h hr => by
  unfold zSin_oc at hd
  simp only [Bool.and_eq_true, beq_iff_eq, true_and] at hd
  exact zSin_c (h.1 77 hd.1.1.1) (h.1 78 hd.1.1.2) (h.1 79 hd.1.2) (h.1 80 hd.2) rfl rfl rfl rfl hr
def zSin_om (l fl : List Nat) : Bool := true && (zmem l 144 == false) && (zmem l 145 == false) && (zmem l 146 == false) && (zmem l 147 == false)
theorem zSin_km {l fl : List Nat} {S T T' : zS} (hd : zSin_om l fl = true) : zkp l fl T T' → zSin S T → zSin S T' := fun h hr => by
  unfold zSin_om at hd
  simp only [Bool.and_eq_true, beq_iff_eq, true_and] at hd
  exact zSin_c rfl rfl rfl rfl (h.1 144 hd.1.1.1) (h.1 145 hd.1.1.2) (h.1 146 hd.1.2) (h.1 147 hd.2) hr
def zR (n : Nat) (S T : zS) : Prop := zSeal S T ∧ zKey n S T ∧ zEng S T ∧ zRul S T ∧ zPpl S T ∧ zTok S T ∧ zLea S T ∧ zLT S T ∧ zUse S T ∧ zSto n S T ∧ zFar n S T ∧ zLog n S T ∧ zWra S T ∧ zCas S T ∧ zCer S T ∧ zSin S T
theorem zR_Seal {n : Nat} {S T : zS} (h : zR n S T) : zSeal S T := by unfold zR at h; exact h.1
theorem zR_Key {n : Nat} {S T : zS} (h : zR n S T) : zKey n S T := by unfold zR at h; exact h.2.1
theorem zR_Eng {n : Nat} {S T : zS} (h : zR n S T) : zEng S T := by unfold zR at h; exact h.2.2.1
theorem zR_Rul {n : Nat} {S T : zS} (h : zR n S T) : zRul S T := by unfold zR at h; exact h.2.2.2.1
theorem zR_Ppl {n : Nat} {S T : zS} (h : zR n S T) : zPpl S T := by unfold zR at h; exact h.2.2.2.2.1
theorem zR_Tok {n : Nat} {S T : zS} (h : zR n S T) : zTok S T := by unfold zR at h; exact h.2.2.2.2.2.1
theorem zR_Lea {n : Nat} {S T : zS} (h : zR n S T) : zLea S T := by unfold zR at h; exact h.2.2.2.2.2.2.1
theorem zR_LT {n : Nat} {S T : zS} (h : zR n S T) : zLT S T := by unfold zR at h; exact h.2.2.2.2.2.2.2.1
theorem zR_Use {n : Nat} {S T : zS} (h : zR n S T) : zUse S T := by unfold zR at h; exact h.2.2.2.2.2.2.2.2.1
theorem zR_Sto {n : Nat} {S T : zS} (h : zR n S T) : zSto n S T := by unfold zR at h; exact h.2.2.2.2.2.2.2.2.2.1
theorem zR_Far {n : Nat} {S T : zS} (h : zR n S T) : zFar n S T := by unfold zR at h; exact h.2.2.2.2.2.2.2.2.2.2.1
theorem zR_Log {n : Nat} {S T : zS} (h : zR n S T) : zLog n S T := by unfold zR at h; exact h.2.2.2.2.2.2.2.2.2.2.2.1
theorem zR_Wra {n : Nat} {S T : zS} (h : zR n S T) : zWra S T := by unfold zR at h; exact h.2.2.2.2.2.2.2.2.2.2.2.2.1
theorem zR_Cas {n : Nat} {S T : zS} (h : zR n S T) : zCas S T := by unfold zR at h; exact h.2.2.2.2.2.2.2.2.2.2.2.2.2.1
theorem zR_Cer {n : Nat} {S T : zS} (h : zR n S T) : zCer S T := by unfold zR at h; exact h.2.2.2.2.2.2.2.2.2.2.2.2.2.2.1
theorem zR_Sin {n : Nat} {S T : zS} (h : zR n S T) : zSin S T := by unfold zR at h; exact h.2.2.2.2.2.2.2.2.2.2.2.2.2.2.2
theorem q_1_0 {n : Nat} {S T : zS} (h : zR n S T) : S 1 0 = T 13 3 := by have := zR_Seal h; unfold zSeal at this; exact this.1
theorem q_1_1 {n : Nat} {S T : zS} (h : zR n S T) : S 1 1 = T 13 4 := by have := zR_Seal h; unfold zSeal at this; exact this.2.1
theorem q_1_2 {n : Nat} {S T : zS} (h : zR n S T) : S 1 2 = T 13 5 := by have := zR_Seal h; unfold zSeal at this; exact this.2.2.1
theorem q_1_6 {n : Nat} {S T : zS} (h : zR n S T) : S 1 6 = T 13 2 := by have := zR_Seal h; unfold zSeal at this; exact this.2.2.2.1
theorem q_1_7 {n : Nat} {S T : zS} (h : zR n S T) : S 1 7 = T 13 9 := by have := zR_Seal h; unfold zSeal at this; exact this.2.2.2.2.1
theorem q_1_8 {n : Nat} {S T : zS} (h : zR n S T) : S 1 8 = T 13 10 := by have := zR_Seal h; unfold zSeal at this; exact this.2.2.2.2.2.1
theorem q_1_9 {n : Nat} {S T : zS} (h : zR n S T) : S 1 9 = T 13 11 := by have := zR_Seal h; unfold zSeal at this; exact this.2.2.2.2.2.2.1
theorem q_1_10 {n : Nat} {S T : zS} (h : zR n S T) : S 1 10 = T 13 12 := by have := zR_Seal h; unfold zSeal at this; exact this.2.2.2.2.2.2.2.1
theorem q_14 {n : Nat} {S T : zS} (h : zR n S T) : S 14 = T 81 := by have := zR_Seal h; unfold zSeal at this; exact this.2.2.2.2.2.2.2.2.1
theorem i_Seal_9 {n : Nat} {S T : zS} (h : zR n S T) : (T 13 2 = 0 → T 13 9 = 0 ∧ S 15 = T 82 ∧ T 83 = zNo) := by have := zR_Seal h; unfold zSeal at this; exact this.2.2.2.2.2.2.2.2.2.1
theorem i_Seal_10 {n : Nat} {S T : zS} (h : zR n S T) : (¬ T 13 2 = 0 → S 15 = T 83 ∧ T 82 = zNo) := by have := zR_Seal h; unfold zSeal at this; exact this.2.2.2.2.2.2.2.2.2.2.1
theorem i_Seal_11 {n : Nat} {S T : zS} (h : zR n S T) : S 1 5 = zCnt (S 15) := by have := zR_Seal h; unfold zSeal at this; exact this.2.2.2.2.2.2.2.2.2.2.2.1
theorem i_Seal_12 {n : Nat} {S T : zS} (h : zR n S T) : (∀ i, i < 7 → -1 ≤ (S 15 i).toInt ∧ (S 15 i).toInt ≤ 256) := by have := zR_Seal h; unfold zSeal at this; exact this.2.2.2.2.2.2.2.2.2.2.2.2.1
theorem i_Seal_13 {n : Nat} {S T : zS} (h : zR n S T) : S 15 0 = -1 := by have := zR_Seal h; unfold zSeal at this; exact this.2.2.2.2.2.2.2.2.2.2.2.2.2.1
theorem i_Seal_14 {n : Nat} {S T : zS} (h : zR n S T) : (∀ i : Nat, i < 7 → (T 13 4).toInt < (i : Int) → S 15 i = -1) := by have := zR_Seal h; unfold zSeal at this; exact this.2.2.2.2.2.2.2.2.2.2.2.2.2.2.1
theorem i_Seal_15 {n : Nat} {S T : zS} (h : zR n S T) : zo (T 13 2) := by have := zR_Seal h; unfold zSeal at this; exact this.2.2.2.2.2.2.2.2.2.2.2.2.2.2.2.1
theorem i_Seal_16 {n : Nat} {S T : zS} (h : zR n S T) : zo (T 13 9) := by have := zR_Seal h; unfold zSeal at this; exact this.2.2.2.2.2.2.2.2.2.2.2.2.2.2.2.2.1
theorem i_Seal_17 {n : Nat} {S T : zS} (h : zR n S T) : zn 6 (T 13 4) := by have := zR_Seal h; unfold zSeal at this; exact this.2.2.2.2.2.2.2.2.2.2.2.2.2.2.2.2.2.1
theorem i_Seal_18 {n : Nat} {S T : zS} (h : zR n S T) : zn 6 (T 13 5) := by have := zR_Seal h; unfold zSeal at this; exact this.2.2.2.2.2.2.2.2.2.2.2.2.2.2.2.2.2.2.1
theorem i_Seal_19 {n : Nat} {S T : zS} (h : zR n S T) : (zn 6 (T 13 11) ∧ zn 6 (T 13 12)) := by have := zR_Seal h; unfold zSeal at this; exact this.2.2.2.2.2.2.2.2.2.2.2.2.2.2.2.2.2.2.2.1
theorem i_Seal_20 {n : Nat} {S T : zS} (h : zR n S T) : (∀ i, 7 ≤ i → S 15 i = 0) := by have := zR_Seal h; unfold zSeal at this; exact this.2.2.2.2.2.2.2.2.2.2.2.2.2.2.2.2.2.2.2.2
theorem q_2_0 {n : Nat} {S T : zS} (h : zR n S T) : S 2 0 = T 13 13 := by have := zR_Key h; unfold zKey at this; exact this.1
theorem q_2_1 {n : Nat} {S T : zS} (h : zR n S T) : S 2 1 = T 13 14 := by have := zR_Key h; unfold zKey at this; exact this.2.1
theorem q_2_2 {n : Nat} {S T : zS} (h : zR n S T) : S 2 2 = T 13 15 := by have := zR_Key h; unfold zKey at this; exact this.2.2.1
theorem q_2_3 {n : Nat} {S T : zS} (h : zR n S T) : S 2 3 = T 13 18 := by have := zR_Key h; unfold zKey at this; exact this.2.2.2.1
theorem q_2_4 {n : Nat} {S T : zS} (h : zR n S T) : S 2 4 = T 13 16 := by have := zR_Key h; unfold zKey at this; exact this.2.2.2.2.1
theorem q_2_5 {n : Nat} {S T : zS} (h : zR n S T) : S 2 5 = T 13 17 := by have := zR_Key h; unfold zKey at this; exact this.2.2.2.2.2.1
theorem q_0_11 {n : Nat} {S T : zS} (h : zR n S T) : S 0 11 = T 13 1 := by have := zR_Key h; unfold zKey at this; exact this.2.2.2.2.2.2.1
theorem i_Key_7 {n : Nat} {S T : zS} (h : zR n S T) : zn (50 * n) (T 13 1) := by have := zR_Key h; unfold zKey at this; exact this.2.2.2.2.2.2.2.1
theorem i_Key_8 {n : Nat} {S T : zS} (h : zR n S T) : 1 ≤ (T 13 13).toInt := by have := zR_Key h; unfold zKey at this; exact this.2.2.2.2.2.2.2.2.1
theorem i_Key_9 {n : Nat} {S T : zS} (h : zR n S T) : (T 13 13).toInt ≤ 1 + 60 * n := by have := zR_Key h; unfold zKey at this; exact this.2.2.2.2.2.2.2.2.2
theorem q_16 {n : Nat} {S T : zS} (h : zR n S T) : S 16 = T 84 := by have := zR_Eng h; unfold zEng at this; exact this.1
theorem q_17 {n : Nat} {S T : zS} (h : zR n S T) : S 17 = T 85 := by have := zR_Eng h; unfold zEng at this; exact this.2.1
theorem q_18 {n : Nat} {S T : zS} (h : zR n S T) : S 18 = T 86 := by have := zR_Eng h; unfold zEng at this; exact this.2.2.1
theorem q_19 {n : Nat} {S T : zS} (h : zR n S T) : S 19 = T 87 := by have := zR_Eng h; unfold zEng at this; exact this.2.2.2.1
theorem i_Eng_4 {n : Nat} {S T : zS} (h : zR n S T) : zA 6 3 (T 85) := by have := zR_Eng h; unfold zEng at this; exact this.2.2.2.2
theorem q_20 {n : Nat} {S T : zS} (h : zR n S T) : S 20 = T 101 := by have := zR_Rul h; unfold zRul at this; exact this.1
theorem i_Rul_1 {n : Nat} {S T : zS} (h : zR n S T) : (∀ r, r < 40 → S 21 (3 * r) = T 102 (5 * r) ∧ S 21 (3 * r + 1) = T 102 (5 * r + 1) ∧ S 21 (3 * r + 2) = T 102 (5 * r + 2) ∧ S 22 r = T 102 (5 * r + 3) ∧ S 23 r = T 102 (5 * r + 4) ∧ zn 8 (T 102 (5 * r)) ∧ zn 8 (T 102 (5 * r + 1)) ∧ zn 8 (T 102 (5 * r + 2)) ∧ zn 15 (T 102 (5 * r + 3)) ∧ zn 2 (T 102 (5 * r + 4))) := by have := zR_Rul h; unfold zRul at this; exact this.2.1
theorem i_Rul_2 {n : Nat} {S T : zS} (h : zR n S T) : (∀ p, p < 8 → zn 5 (T 101 p)) := by have := zR_Rul h; unfold zRul at this; exact this.2.2
theorem q_24 {n : Nat} {S T : zS} (h : zR n S T) : S 24 = T 106 := by have := zR_Ppl h; unfold zPpl at this; exact this.1
theorem q_25 {n : Nat} {S T : zS} (h : zR n S T) : S 25 = T 103 := by have := zR_Ppl h; unfold zPpl at this; exact this.2.1
theorem q_26 {n : Nat} {S T : zS} (h : zR n S T) : S 26 = T 104 := by have := zR_Ppl h; unfold zPpl at this; exact this.2.2.1
theorem q_27 {n : Nat} {S T : zS} (h : zR n S T) : S 27 = T 105 := by have := zR_Ppl h; unfold zPpl at this; exact this.2.2.2.1
theorem q_28 {n : Nat} {S T : zS} (h : zR n S T) : S 28 = T 107 := by have := zR_Ppl h; unfold zPpl at this; exact this.2.2.2.2.1
theorem q_29 {n : Nat} {S T : zS} (h : zR n S T) : S 29 = T 108 := by have := zR_Ppl h; unfold zPpl at this; exact this.2.2.2.2.2.1
theorem i_Ppl_6 {n : Nat} {S T : zS} (h : zR n S T) : (∀ j, j < 18 → -1 ≤ (T 106 j).toInt ∧ (T 106 j).toInt ≤ 7) := by have := zR_Ppl h; unfold zPpl at this; exact this.2.2.2.2.2.2
theorem q_5_0 {n : Nat} {S T : zS} (h : zR n S T) : S 5 0 = T 13 45 := by have := zR_Tok h; unfold zTok at this; exact this.1
theorem q_30 {n : Nat} {S T : zS} (h : zR n S T) : S 30 = T 110 := by have := zR_Tok h; unfold zTok at this; exact this.2.1
theorem q_31 {n : Nat} {S T : zS} (h : zR n S T) : S 31 = T 109 := by have := zR_Tok h; unfold zTok at this; exact this.2.2.1
theorem q_32 {n : Nat} {S T : zS} (h : zR n S T) : S 32 = T 111 := by have := zR_Tok h; unfold zTok at this; exact this.2.2.2.1
theorem q_33 {n : Nat} {S T : zS} (h : zR n S T) : S 33 = T 112 := by have := zR_Tok h; unfold zTok at this; exact this.2.2.2.2.1
theorem q_34 {n : Nat} {S T : zS} (h : zR n S T) : S 34 = T 113 := by have := zR_Tok h; unfold zTok at this; exact this.2.2.2.2.2.1
theorem q_37 {n : Nat} {S T : zS} (h : zR n S T) : S 37 = T 117 := by have := zR_Tok h; unfold zTok at this; exact this.2.2.2.2.2.2.1
theorem q_38 {n : Nat} {S T : zS} (h : zR n S T) : S 38 = T 116 := by have := zR_Tok h; unfold zTok at this; exact this.2.2.2.2.2.2.2.1
theorem q_39 {n : Nat} {S T : zS} (h : zR n S T) : S 39 = T 118 := by have := zR_Tok h; unfold zTok at this; exact this.2.2.2.2.2.2.2.2.1
theorem q_40 {n : Nat} {S T : zS} (h : zR n S T) : S 40 = T 119 := by have := zR_Tok h; unfold zTok at this; exact this.2.2.2.2.2.2.2.2.2.1
theorem i_Tok_10 {n : Nat} {S T : zS} (h : zR n S T) : zn 40 (T 13 45) := by have := zR_Tok h; unfold zTok at this; exact this.2.2.2.2.2.2.2.2.2.2.1
theorem i_Tok_11 {n : Nat} {S T : zS} (h : zR n S T) : (∀ j, ¬ T 109 j = 2 → S 35 j = T 114 j) := by have := zR_Tok h; unfold zTok at this; exact this.2.2.2.2.2.2.2.2.2.2.2.1
theorem i_Tok_12 {n : Nat} {S T : zS} (h : zR n S T) : (∀ j, T 109 j = 2 → T 114 j = 1000000000 ∧ S 36 j = T 115 j ∧ zn 100 (T 115 j)) := by have := zR_Tok h; unfold zTok at this; exact this.2.2.2.2.2.2.2.2.2.2.2.2.1
theorem i_Tok_13 {n : Nat} {S T : zS} (h : zR n S T) : (∀ j, j < (T 13 45).toNatClampNeg → T 110 j = -1 ∨ (0 ≤ (T 110 j).toInt ∧ (T 110 j).toInt < (T 13 45).toInt)) := by have := zR_Tok h; unfold zTok at this; exact this.2.2.2.2.2.2.2.2.2.2.2.2.2.1
theorem i_Tok_14 {n : Nat} {S T : zS} (h : zR n S T) : (∀ j, -1 ≤ (T 111 j).toInt ∧ (T 111 j).toInt ≤ 7) := by have := zR_Tok h; unfold zTok at this; exact this.2.2.2.2.2.2.2.2.2.2.2.2.2.2.1
theorem i_Tok_15 {n : Nat} {S T : zS} (h : zR n S T) : (∀ j, (T 13 45).toNatClampNeg ≤ j → T 119 j = 0) := by have := zR_Tok h; unfold zTok at this; exact this.2.2.2.2.2.2.2.2.2.2.2.2.2.2.2.1
theorem i_Tok_16 {n : Nat} {S T : zS} (h : zR n S T) : (∀ j, zo (T 118 j)) := by have := zR_Tok h; unfold zTok at this; exact this.2.2.2.2.2.2.2.2.2.2.2.2.2.2.2.2.1
theorem i_Tok_17 {n : Nat} {S T : zS} (h : zR n S T) : (∀ j, zo (T 119 j)) := by have := zR_Tok h; unfold zTok at this; exact this.2.2.2.2.2.2.2.2.2.2.2.2.2.2.2.2.2.1
theorem i_Tok_18 {n : Nat} {S T : zS} (h : zR n S T) : (∀ j, -1 ≤ (T 117 j).toInt ∧ (T 117 j).toInt ≤ 20) := by have := zR_Tok h; unfold zTok at this; exact this.2.2.2.2.2.2.2.2.2.2.2.2.2.2.2.2.2.2.1
theorem i_Tok_19 {n : Nat} {S T : zS} (h : zR n S T) : zPa 40 40 (T 110) := by have := zR_Tok h; unfold zTok at this; exact this.2.2.2.2.2.2.2.2.2.2.2.2.2.2.2.2.2.2.2
theorem q_6_0 {n : Nat} {S T : zS} (h : zR n S T) : S 6 0 = T 13 57 := by have := zR_Lea h; unfold zLea at this; exact this.1
theorem q_41 {n : Nat} {S T : zS} (h : zR n S T) : S 41 = T 120 := by have := zR_Lea h; unfold zLea at this; exact this.2.1
theorem q_42 {n : Nat} {S T : zS} (h : zR n S T) : S 42 = T 121 := by have := zR_Lea h; unfold zLea at this; exact this.2.2.1
theorem q_43 {n : Nat} {S T : zS} (h : zR n S T) : S 43 = T 122 := by have := zR_Lea h; unfold zLea at this; exact this.2.2.2.1
theorem q_44 {n : Nat} {S T : zS} (h : zR n S T) : S 44 = T 123 := by have := zR_Lea h; unfold zLea at this; exact this.2.2.2.2.1
theorem q_45 {n : Nat} {S T : zS} (h : zR n S T) : S 45 = T 124 := by have := zR_Lea h; unfold zLea at this; exact this.2.2.2.2.2.1
theorem q_46 {n : Nat} {S T : zS} (h : zR n S T) : S 46 = T 125 := by have := zR_Lea h; unfold zLea at this; exact this.2.2.2.2.2.2.1
theorem q_47 {n : Nat} {S T : zS} (h : zR n S T) : S 47 = T 126 := by have := zR_Lea h; unfold zLea at this; exact this.2.2.2.2.2.2.2.1
theorem q_48 {n : Nat} {S T : zS} (h : zR n S T) : S 48 = T 127 := by have := zR_Lea h; unfold zLea at this; exact this.2.2.2.2.2.2.2.2.1
theorem q_49 {n : Nat} {S T : zS} (h : zR n S T) : S 49 = T 128 := by have := zR_Lea h; unfold zLea at this; exact this.2.2.2.2.2.2.2.2.2.1
theorem q_50 {n : Nat} {S T : zS} (h : zR n S T) : S 50 = T 129 := by have := zR_Lea h; unfold zLea at this; exact this.2.2.2.2.2.2.2.2.2.2.1
theorem i_Lea_11 {n : Nat} {S T : zS} (h : zR n S T) : zn 40 (T 13 57) := by have := zR_Lea h; unfold zLea at this; exact this.2.2.2.2.2.2.2.2.2.2.2.1
theorem i_Lea_12 {n : Nat} {S T : zS} (h : zR n S T) : zA 40 40 (T 120) := by have := zR_Lea h; unfold zLea at this; exact this.2.2.2.2.2.2.2.2.2.2.2.2.1
theorem i_Lea_13 {n : Nat} {S T : zS} (h : zR n S T) : zA 40 216 (T 121) := by have := zR_Lea h; unfold zLea at this; exact this.2.2.2.2.2.2.2.2.2.2.2.2.2.1
theorem i_Lea_14 {n : Nat} {S T : zS} (h : zR n S T) : zA 40 3 (T 122) := by have := zR_Lea h; unfold zLea at this; exact this.2.2.2.2.2.2.2.2.2.2.2.2.2.2.1
theorem i_Lea_15 {n : Nat} {S T : zS} (h : zR n S T) : (∀ j, T 125 j = 0 → T 126 j = 0) := by have := zR_Lea h; unfold zLea at this; exact this.2.2.2.2.2.2.2.2.2.2.2.2.2.2.2.1
theorem i_Lea_16 {n : Nat} {S T : zS} (h : zR n S T) : (∀ j, T 125 j = 1 → T 126 j = 1 ∨ T 126 j = 2) := by have := zR_Lea h; unfold zLea at this; exact this.2.2.2.2.2.2.2.2.2.2.2.2.2.2.2.2.1
theorem i_Lea_17 {n : Nat} {S T : zS} (h : zR n S T) : (∀ j, j < 3 → zn 2 (T 127 j)) := by have := zR_Lea h; unfold zLea at this; exact this.2.2.2.2.2.2.2.2.2.2.2.2.2.2.2.2.2.1
theorem i_Lea_18 {n : Nat} {S T : zS} (h : zR n S T) : (∀ j, (T 13 57).toNatClampNeg ≤ j → T 126 j = 0) := by have := zR_Lea h; unfold zLea at this; exact this.2.2.2.2.2.2.2.2.2.2.2.2.2.2.2.2.2.2
theorem q_51 {n : Nat} {S T : zS} (h : zR n S T) : S 51 = T 88 := by have := zR_Sto h; unfold zSto at this; exact this.1
theorem q_53 {n : Nat} {S T : zS} (h : zR n S T) : S 53 = T 90 := by have := zR_Sto h; unfold zSto at this; exact this.2.1
theorem q_54 {n : Nat} {S T : zS} (h : zR n S T) : S 54 = T 91 := by have := zR_Sto h; unfold zSto at this; exact this.2.2.1
theorem i_Sto_3 {n : Nat} {S T : zS} (h : zR n S T) : (∀ i, ¬ T 91 i = 2 → S 52 i = T 89 i) := by have := zR_Sto h; unfold zSto at this; exact this.2.2.2.1
theorem i_Sto_4 {n : Nat} {S T : zS} (h : zR n S T) : (∀ j, j < 216 → zn n (T 88 j)) := by have := zR_Sto h; unfold zSto at this; exact this.2.2.2.2.1
theorem i_Sto_5 {n : Nat} {S T : zS} (h : zR n S T) : (∀ i, zn 9999 (T 89 i)) := by have := zR_Sto h; unfold zSto at this; exact this.2.2.2.2.2.1
theorem i_Sto_6 {n : Nat} {S T : zS} (h : zR n S T) : (∀ i, zn 2 (T 91 i)) := by have := zR_Sto h; unfold zSto at this; exact this.2.2.2.2.2.2
theorem q_59 {n : Nat} {S T : zS} (h : zR n S T) : S 59 = T 92 := by have := zR_Far h; unfold zFar at this; exact this.1
theorem q_61 {n : Nat} {S T : zS} (h : zR n S T) : S 61 = T 94 := by have := zR_Far h; unfold zFar at this; exact this.2.1
theorem q_62 {n : Nat} {S T : zS} (h : zR n S T) : S 62 = T 95 := by have := zR_Far h; unfold zFar at this; exact this.2.2.1
theorem i_Far_3 {n : Nat} {S T : zS} (h : zR n S T) : (∀ i, ¬ T 95 i = 2 → S 60 i = T 93 i) := by have := zR_Far h; unfold zFar at this; exact this.2.2.2.1
theorem i_Far_4 {n : Nat} {S T : zS} (h : zR n S T) : (∀ j, j < 216 → zn n (T 92 j)) := by have := zR_Far h; unfold zFar at this; exact this.2.2.2.2
theorem i_Log_0 {n : Nat} {S T : zS} (h : zR n S T) : zn n (S 8 5) := by have := zR_Log h; unfold zLog at this; exact this.1
theorem i_Log_1 {n : Nat} {S T : zS} (h : zR n S T) : zn n (S 8 6) := by have := zR_Log h; unfold zLog at this; exact this.2.1
theorem i_Log_2 {n : Nat} {S T : zS} (h : zR n S T) : (S 8 6).toInt ≤ (S 8 5).toInt := by have := zR_Log h; unfold zLog at this; exact this.2.2.1
theorem i_Log_3 {n : Nat} {S T : zS} (h : zR n S T) : T 13 36 = S 8 5 - S 8 6 := by have := zR_Log h; unfold zLog at this; exact this.2.2.2.1
theorem i_Log_4 {n : Nat} {S T : zS} (h : zR n S T) : zA 512 216 (S 55) := by have := zR_Log h; unfold zLog at this; exact this.2.2.2.2.1
theorem i_Log_5 {n : Nat} {S T : zS} (h : zR n S T) : zA 600 216 (T 96) := by have := zR_Log h; unfold zLog at this; exact this.2.2.2.2.2.1
theorem i_Log_6 {n : Nat} {S T : zS} (h : zR n S T) : (∀ k, k < 600 → zn 10000 (T 97 k)) := by have := zR_Log h; unfold zLog at this; exact this.2.2.2.2.2.2.1
theorem i_Log_7 {n : Nat} {S T : zS} (h : zR n S T) : (∀ k, k < (T 13 36).toNatClampNeg → zEnt S T ((S 8 6).toNatClampNeg + k) k) := by have := zR_Log h; unfold zLog at this; exact this.2.2.2.2.2.2.2.1
theorem i_Log_8 {n : Nat} {S T : zS} (h : zR n S T) : zRep (T 13 36).toNatClampNeg (fun k => T 96 k) (fun k => T 97 k) (fun k => T 98 k) (S 59) (S 62) (S 51) (S 54) := by have := zR_Log h; unfold zLog at this; exact this.2.2.2.2.2.2.2.2
theorem q_10_0 {n : Nat} {S T : zS} (h : zR n S T) : S 10 0 = T 13 68 := by have := zR_Wra h; unfold zWra at this; exact this.1
theorem q_63 {n : Nat} {S T : zS} (h : zR n S T) : S 63 = T 130 := by have := zR_Wra h; unfold zWra at this; exact this.2.1
theorem q_64 {n : Nat} {S T : zS} (h : zR n S T) : S 64 = T 131 := by have := zR_Wra h; unfold zWra at this; exact this.2.2.1
theorem q_65 {n : Nat} {S T : zS} (h : zR n S T) : S 65 = T 132 := by have := zR_Wra h; unfold zWra at this; exact this.2.2.2.1
theorem i_Wra_4 {n : Nat} {S T : zS} (h : zR n S T) : zn 20 (T 13 68) := by have := zR_Wra h; unfold zWra at this; exact this.2.2.2.2.1
theorem i_Wra_5 {n : Nat} {S T : zS} (h : zR n S T) : (∀ j, (T 13 68).toNatClampNeg ≤ j → T 132 j = 0) := by have := zR_Wra h; unfold zWra at this; exact this.2.2.2.2.2
theorem q_10_4 {n : Nat} {S T : zS} (h : zR n S T) : S 10 4 = T 13 72 := by have := zR_Cas h; unfold zCas at this; exact this.1
theorem q_66 {n : Nat} {S T : zS} (h : zR n S T) : S 66 = T 133 := by have := zR_Cas h; unfold zCas at this; exact this.2.1
theorem q_67 {n : Nat} {S T : zS} (h : zR n S T) : S 67 = T 134 := by have := zR_Cas h; unfold zCas at this; exact this.2.2.1
theorem q_68 {n : Nat} {S T : zS} (h : zR n S T) : S 68 = T 135 := by have := zR_Cas h; unfold zCas at this; exact this.2.2.2.1
theorem q_69 {n : Nat} {S T : zS} (h : zR n S T) : S 69 = T 136 := by have := zR_Cas h; unfold zCas at this; exact this.2.2.2.2.1
theorem q_70 {n : Nat} {S T : zS} (h : zR n S T) : S 70 = T 137 := by have := zR_Cas h; unfold zCas at this; exact this.2.2.2.2.2.1
theorem q_71 {n : Nat} {S T : zS} (h : zR n S T) : S 71 = T 138 := by have := zR_Cas h; unfold zCas at this; exact this.2.2.2.2.2.2.1
theorem i_Cas_7 {n : Nat} {S T : zS} (h : zR n S T) : zn 20 (T 13 72) := by have := zR_Cas h; unfold zCas at this; exact this.2.2.2.2.2.2.2.1
theorem i_Cas_8 {n : Nat} {S T : zS} (h : zR n S T) : (∀ j, (T 13 72).toNatClampNeg ≤ j → T 137 j = 0 ∧ T 138 j = 0) := by have := zR_Cas h; unfold zCas at this; exact this.2.2.2.2.2.2.2.2.1
theorem i_Cas_9 {n : Nat} {S T : zS} (h : zR n S T) : (∀ j, j < (T 13 72).toNatClampNeg → 0 ≤ (T 133 j).toInt ∧ (T 133 j).toInt < (T 13 45).toInt) := by have := zR_Cas h; unfold zCas at this; exact this.2.2.2.2.2.2.2.2.2.1
theorem i_Cas_10 {n : Nat} {S T : zS} (h : zR n S T) : zA 20 216 (T 134) := by have := zR_Cas h; unfold zCas at this; exact this.2.2.2.2.2.2.2.2.2.2.1
theorem i_Cas_11 {n : Nat} {S T : zS} (h : zR n S T) : (∀ j, j < 20 → zn 9999 (T 135 j)) := by have := zR_Cas h; unfold zCas at this; exact this.2.2.2.2.2.2.2.2.2.2.2.1
theorem i_Cas_12 {n : Nat} {S T : zS} (h : zR n S T) : (∀ j, j < 20 → zn 255 (T 137 j)) := by have := zR_Cas h; unfold zCas at this; exact this.2.2.2.2.2.2.2.2.2.2.2.2.1
theorem i_Cas_13 {n : Nat} {S T : zS} (h : zR n S T) : (∀ j, j < 20 → zo (T 138 j)) := by have := zR_Cas h; unfold zCas at this; exact this.2.2.2.2.2.2.2.2.2.2.2.2.2
theorem q_11_0 {n : Nat} {S T : zS} (h : zR n S T) : S 11 0 = T 13 79 := by have := zR_Cer h; unfold zCer at this; exact this.1
theorem q_72 {n : Nat} {S T : zS} (h : zR n S T) : S 72 = T 140 := by have := zR_Cer h; unfold zCer at this; exact this.2.1
theorem q_73 {n : Nat} {S T : zS} (h : zR n S T) : S 73 = T 141 := by have := zR_Cer h; unfold zCer at this; exact this.2.2.1
theorem q_74 {n : Nat} {S T : zS} (h : zR n S T) : S 74 = T 139 := by have := zR_Cer h; unfold zCer at this; exact this.2.2.2.1
theorem q_75 {n : Nat} {S T : zS} (h : zR n S T) : S 75 = T 142 := by have := zR_Cer h; unfold zCer at this; exact this.2.2.2.2.1
theorem q_76 {n : Nat} {S T : zS} (h : zR n S T) : S 76 = T 143 := by have := zR_Cer h; unfold zCer at this; exact this.2.2.2.2.2.1
theorem i_Cer_6 {n : Nat} {S T : zS} (h : zR n S T) : zn 30 (T 13 79) := by have := zR_Cer h; unfold zCer at this; exact this.2.2.2.2.2.2.1
theorem i_Cer_7 {n : Nat} {S T : zS} (h : zR n S T) : (∀ c, c < (T 13 79).toNatClampNeg → 0 ≤ (T 139 c).toInt ∧ (T 139 c).toInt ≤ c ∧ T 139 (T 139 c).toNatClampNeg = T 139 c) := by have := zR_Cer h; unfold zCer at this; exact this.2.2.2.2.2.2.2.1
theorem i_Cer_8 {n : Nat} {S T : zS} (h : zR n S T) : (∀ c, c < (T 13 79).toNatClampNeg → zx 216 (T 140 c) ∧ (zrem (T 140 c) 6 = 0 → T 139 c = Int32.ofNat c)) := by have := zR_Cer h; unfold zCer at this; exact this.2.2.2.2.2.2.2.2.1
theorem i_Cer_9 {n : Nat} {S T : zS} (h : zR n S T) : (∀ c, zo (T 142 c)) := by have := zR_Cer h; unfold zCer at this; exact this.2.2.2.2.2.2.2.2.2.1
theorem i_Cer_10 {n : Nat} {S T : zS} (h : zR n S T) : (∀ c, zo (T 143 c)) := by have := zR_Cer h; unfold zCer at this; exact this.2.2.2.2.2.2.2.2.2.2
theorem q_77 {n : Nat} {S T : zS} (h : zR n S T) : S 77 = T 144 := by have := zR_Sin h; unfold zSin at this; exact this.1
theorem q_78 {n : Nat} {S T : zS} (h : zR n S T) : S 78 = T 145 := by have := zR_Sin h; unfold zSin at this; exact this.2.1
theorem q_79 {n : Nat} {S T : zS} (h : zR n S T) : S 79 = T 146 := by have := zR_Sin h; unfold zSin at this; exact this.2.2.1
theorem q_80 {n : Nat} {S T : zS} (h : zR n S T) : S 80 = T 147 := by have := zR_Sin h; unfold zSin at this; exact this.2.2.2.1
theorem i_Sin_4 {n : Nat} {S T : zS} (h : zR n S T) : (∀ j, zo (T 144 j)) := by have := zR_Sin h; unfold zSin at this; exact this.2.2.2.2.1
theorem i_Sin_5 {n : Nat} {S T : zS} (h : zR n S T) : (∀ j, zo (T 145 j)) := by have := zR_Sin h; unfold zSin at this; exact this.2.2.2.2.2
