/-! the calls that are no requests: keyring, engines, rights -/
theorem jk41r (x : Int32) (S : zS) : (G41 x S 2 0 = S 2 0 ∨ G41 x S 2 0 = (S 2 0) + 1) ∧ F41 x S = G41 x S 2 0 := by
  unfold G41 F41
  split
  · simp only [zup2, Nat.reduceEqDiff, reduceIte]; exact ⟨Or.inr trivial, trivial⟩
  · split
    · simp only [zup2, Nat.reduceEqDiff, reduceIte]; exact ⟨Or.inl trivial, trivial⟩
    · simp only [zup2, Nat.reduceEqDiff, reduceIte]; exact ⟨Or.inr trivial, trivial⟩
/-- how far a rewrapping has come -/
def jRw (x1 : Int32) (S : zS) (v : Int32) (C : zS) : Prop := 0 ≤ v.toInt ∧ v.toInt ≤ x1.toInt ∧ zkp [2, 53] [2000, 2001, 2002] S C ∧ (∀ i, 0 ≤ (C 53 i).toInt) ∧ (S 2 0).toInt ≤ (C 2 0).toInt ∧ (C 2 0).toInt ≤ (S 2 0).toInt + v.toInt
theorem jrw1 {S : zS} {x1 : Int32} (x3 x4 x5 x6 x7 : Int32) (u8 : Option zV) (C : zS) (hx : x1.toInt ≤ 50) (h0 : 1 ≤ (S 2 0).toInt) (h1 : (S 2 0).toInt ≤ 1000000) (h : jRw x1 S x5 C) : jRw x1 S (K112_7_2_21_c5 x1 x3 x4 x5 x6 x7 u8 C) (K112_7_2_21_S x1 x3 x4 x5 x6 x7 u8 C) := by
  unfold K112_7_2_21_c5 K112_7_2_21_S K112_7_2_21
  refine zwl_inv (I := fun (b : Int32 × Int32 × Option zV × zS) => jRw x1 S b.1 b.2.2.2) h (fun b hc hI => ?_)
  have hc2 := c112_7_2_21_n x1 x3 x4 x6 b hc
  obtain ⟨_, hc3⟩ := hc2
  rw [zk_le] at hc3
  obtain ⟨i1, i2, i3, i4, i5, i6⟩ := hI
  unfold kw112_7_2_21
  dsimp only
  split
  · exact ⟨i1, i2, i3, i4, i5, i6⟩
  · split
    · exact ⟨i1, i2, i3, i4, i5, i6⟩
    · split
      · exact ⟨i1, i2, i3, i4, i5, i6⟩
      · have e1 : (b.1 + 1).toInt = b.1.toInt + 1 := by rw [zk_tadd (by rw [zk_1]; omega) (by rw [zk_1]; omega), zk_1]
        obtain ⟨r1, r2⟩ := jk41r x3 b.2.2.2
        have kp := p_G41 x3 b.2.2.2
        have e2 : ((b.2.2.2 2 0) + 1).toInt = (b.2.2.2 2 0).toInt + 1 := by rw [zk_tadd (by rw [zk_1]; omega) (by rw [zk_1]; omega), zk_1]
        have e3 : (b.2.2.2 2 0).toInt ≤ (G41 x3 b.2.2.2 2 0).toInt ∧ (G41 x3 b.2.2.2 2 0).toInt ≤ (b.2.2.2 2 0).toInt + 1 := by
          rcases r1 with e | e
          · rw [e]; omega
          · rw [e, e2]; omega
        refine ⟨by rw [e1]; omega, by rw [e1]; omega, zkp_up (zkp_tr i3 kp rfl rfl) rfl rfl, fun i => ?_, ?_, ?_⟩
        · rw [zup2, if_pos rfl, r2]
          split
          · omega
          · rw [kp.1 53 rfl]; exact i4 i
        · rw [zupci rfl]; omega
        · rw [zupci rfl, e1]; omega
theorem jq141 {n : Nat} {S : zS} (hn : n < 500) (h : jI n S) {a : Int32} (ha : 1 ≤ a.toInt ∧ a.toInt ≤ 50) : jI (n + 1) (B141 a S) ∧ 0 ≤ (A141 a S).toInt ∧ (A141 a S).toInt ≤ a.toInt := by
  have hK := jI_Key h
  have hS := jI_Sto h
  have key : jRw a S (A141 a S) (B141 a S) := by
    unfold A141 B141 K112_7_2_7_c5 K112_7_2_7_S K112_7_2_7
    refine zfold_inv (f := k112_7_2_7 a (S 0 11) (S 2 0)) (i := 0) (n := 216 - 0) (a := ((0 : Int32), (none : Option zV), (none : Option zV), S)) (I := fun _ (b : Int32 × Option zV × Option zV × zS) => jRw a S b.1 b.2.2.2) (show jRw a S 0 S from ⟨by decide, by rw [jk_0]; omega, zkp_S, rSto_2 hS, Int.le_refl _, by rw [jk_0]; omega⟩) (fun j b hj hI => ?_)
    unfold k112_7_2_7
    have := hK
    unfold jKey at this
    exact jrw1 _ _ _ _ _ _ _ ha.2 (by omega) (by omega) hI
  obtain ⟨i1, i2, i3, i4, i5, i6⟩ := key
  refine ⟨?_, i1, i2⟩
  have kK : jKey (n + 1) (B141 a S) := by
    unfold jKey at hK ⊢
    rw [i3.1 0 rfl, i3.2 2 3 rfl rfl]
    exact ⟨zn_mono hK.1 (by omega), hK.2.1, by omega, by omega⟩
  have kS : jSto (n + 1) (B141 a S) := by
    unfold jSto at hS ⊢
    rw [i3.1 51 rfl, i3.1 52 rfl, i3.1 54 rfl]
    exact ⟨fun p hp => zn_up (hS.1 p hp), hS.2.1, i4, hS.2.2.2⟩
  exact (by unfold jI; exact ⟨(jSea_k rfl i3 (jI_Sea h)), kK, (jEng_k rfl i3 (jI_Eng h)), (jPpl_k rfl i3 (jI_Ppl h)), (jTok_k rfl i3 (jI_Tok h)), (jTim_k rfl i3 (jI_Tim h)), (jUse_k rfl i3 (jI_Use h)), (jLea_k rfl i3 (jI_Lea h)), (jEnd_k rfl i3 (jI_End h)), (jLT_k rfl i3 (jI_LT h)), (jCnt_u (Nat.le_succ n) (jCnt_k rfl i3 (jI_Cnt h))), kS, (jFar_u (Nat.le_succ n) (jFar_k rfl i3 (jI_Far h))), (jWra_k rfl i3 (jI_Wra h)), (jCas_k rfl i3 (jI_Cas h)), (jCer_k rfl i3 (jI_Cer h)), (jSin_k rfl i3 (jI_Sin h))⟩)
theorem jq138 {n : Nat} {S : zS} (h : jI n S) (a b : Int32) : jI n (B138 a b S) := by
  have hp := p_B138 a b S
  exact (by unfold jI; exact ⟨(jSea_k rfl hp (jI_Sea h)), (jKey_k rfl hp (jI_Key h)), (jEng_k rfl hp (jI_Eng h)), (jPpl_k rfl hp (jI_Ppl h)), (jTok_k rfl hp (jI_Tok h)), (jTim_k rfl hp (jI_Tim h)), (jUse_k rfl hp (jI_Use h)), (jLea_k rfl hp (jI_Lea h)), (jEnd_k rfl hp (jI_End h)), (jLT_k rfl hp (jI_LT h)), (jCnt_k rfl hp (jI_Cnt h)), (jSto_k rfl hp (jI_Sto h)), (jFar_k rfl hp (jI_Far h)), (jWra_k rfl hp (jI_Wra h)), (jCas_k rfl hp (jI_Cas h)), (jCer_k rfl hp (jI_Cer h)), (jSin_k rfl hp (jI_Sin h))⟩)
theorem jq139 {n : Nat} {S : zS} (hn : n < 500) (h : jI n S) : jI (n + 1) (B139 S) ∧ B139 S 2 0 = A139 S := by
  have hp := p_B139 S
  have hK := jI_Key h
  have e2 : ((S 2 0) + 1).toInt = (S 2 0).toInt + 1 := by unfold jKey at hK; rw [zk_tadd (by rw [zk_1]; omega) (by rw [zk_1]; omega), zk_1]
  have r : B139 S 2 0 = (S 2 0) + 1 := by unfold B139; simp only [zup2, Nat.reduceEqDiff, reduceIte]
  have kK : jKey (n + 1) (B139 S) := by
    unfold jKey at hK ⊢
    rw [hp.1 0 rfl, hp.2 2 3 rfl rfl, r, e2]
    exact ⟨zn_mono hK.1 (by omega), hK.2.1, by omega, by omega⟩
  exact ⟨(by unfold jI; exact ⟨(jSea_k rfl hp (jI_Sea h)), kK, (jEng_k rfl hp (jI_Eng h)), (jPpl_k rfl hp (jI_Ppl h)), (jTok_k rfl hp (jI_Tok h)), (jTim_k rfl hp (jI_Tim h)), (jUse_k rfl hp (jI_Use h)), (jLea_k rfl hp (jI_Lea h)), (jEnd_k rfl hp (jI_End h)), (jLT_k rfl hp (jI_LT h)), (jCnt_u (Nat.le_succ n) (jCnt_k rfl hp (jI_Cnt h))), (jSto_u (Nat.le_succ n) (jSto_k rfl hp (jI_Sto h))), (jFar_u (Nat.le_succ n) (jFar_k rfl hp (jI_Far h))), (jWra_k rfl hp (jI_Wra h)), (jCas_k rfl hp (jI_Cas h)), (jCer_k rfl hp (jI_Cer h)), (jSin_k rfl hp (jI_Sin h))⟩), r⟩
theorem jq140 {n : Nat} {S : zS} (h : jI n S) {a : Int32} (h1 : (S 2 3).toInt ≤ a.toInt) (h2 : a.toInt ≤ (S 2 0).toInt) : jI n (B140 a S) ∧ B140 a S 2 3 = a ∧ B140 a S 2 0 = S 2 0 := by
  have hp := p_B140 a S
  have hK := jI_Key h
  have r : B140 a S 2 3 = a := by unfold B140; exact zup_s _ _ _ _
  have r0 : B140 a S 2 0 = S 2 0 := hp.2 2 0 rfl rfl
  have kK : jKey n (B140 a S) := by
    unfold jKey at hK ⊢
    rw [hp.1 0 rfl, r, r0]
    exact ⟨hK.1, by omega, by omega, hK.2.2.2⟩
  exact ⟨(by unfold jI; exact ⟨(jSea_k rfl hp (jI_Sea h)), kK, (jEng_k rfl hp (jI_Eng h)), (jPpl_k rfl hp (jI_Ppl h)), (jTok_k rfl hp (jI_Tok h)), (jTim_k rfl hp (jI_Tim h)), (jUse_k rfl hp (jI_Use h)), (jLea_k rfl hp (jI_Lea h)), (jEnd_k rfl hp (jI_End h)), (jLT_k rfl hp (jI_LT h)), (jCnt_k rfl hp (jI_Cnt h)), (jSto_k rfl hp (jI_Sto h)), (jFar_k rfl hp (jI_Far h)), (jWra_k rfl hp (jI_Wra h)), (jCas_k rfl hp (jI_Cas h)), (jCer_k rfl hp (jI_Cer h)), (jSin_k rfl hp (jI_Sin h))⟩), r, r0⟩
theorem jq144 {n : Nat} {S : zS} (h : jI n S) (a : Int32) {b : Int32} (hb : zn 100 b) : jI n (B144 a b S) := by
  have hp := p_B144 a b S
  have hE := jI_Eng h
  have kE : jEng (B144 a b S) := by
    unfold jEng at hE ⊢
    unfold B144
    simp only [zup1, Nat.reduceEqDiff, reduceIte, upd_r]
    refine ⟨hE.1, hE.2.1, fun f hf => ?_⟩
    split
    · exact hb
    · exact hE.2.2 f hf
  exact (by unfold jI; exact ⟨(jSea_k rfl hp (jI_Sea h)), (jKey_k rfl hp (jI_Key h)), kE, (jPpl_k rfl hp (jI_Ppl h)), (jTok_k rfl hp (jI_Tok h)), (jTim_k rfl hp (jI_Tim h)), (jUse_k rfl hp (jI_Use h)), (jLea_k rfl hp (jI_Lea h)), (jEnd_k rfl hp (jI_End h)), (jLT_k rfl hp (jI_LT h)), (jCnt_k rfl hp (jI_Cnt h)), (jSto_k rfl hp (jI_Sto h)), (jFar_k rfl hp (jI_Far h)), (jWra_k rfl hp (jI_Wra h)), (jCas_k rfl hp (jI_Cas h)), (jCer_k rfl hp (jI_Cer h)), (jSin_k rfl hp (jI_Sin h))⟩)
theorem jq147 {n : Nat} {S : zS} (h : jI n S) (a b : Int32) {c : Int32} (hc : zn 255 c) : jI n (B147 a b c S) := by
  have hp := p_B147 a b c S
  have hE := jI_Ppl h
  have kE : jPpl (B147 a b c S) := by
    unfold jPpl at hE ⊢
    unfold B147
    split
    · simp only [zup1, Nat.reduceEqDiff, reduceIte]; exact hE
    · split
      · simp only [zup1, Nat.reduceEqDiff, reduceIte, upd_r]
        refine ⟨hE.1, fun j hj => ?_, hE.2.2⟩
        split
        · exact hc
        · exact hE.2.1 j hj
      · simp only [zup1, Nat.reduceEqDiff, reduceIte, upd_r]
        refine ⟨hE.1, hE.2.1, fun j hj => ?_⟩
        split
        · exact hc
        · exact hE.2.2 j hj
  exact (by unfold jI; exact ⟨(jSea_k rfl hp (jI_Sea h)), (jKey_k rfl hp (jI_Key h)), (jEng_k rfl hp (jI_Eng h)), kE, (jTok_k rfl hp (jI_Tok h)), (jTim_k rfl hp (jI_Tim h)), (jUse_k rfl hp (jI_Use h)), (jLea_k rfl hp (jI_Lea h)), (jEnd_k rfl hp (jI_End h)), (jLT_k rfl hp (jI_LT h)), (jCnt_k rfl hp (jI_Cnt h)), (jSto_k rfl hp (jI_Sto h)), (jFar_k rfl hp (jI_Far h)), (jWra_k rfl hp (jI_Wra h)), (jCas_k rfl hp (jI_Cas h)), (jCer_k rfl hp (jI_Cer h)), (jSin_k rfl hp (jI_Sin h))⟩)
theorem jq148 {n : Nat} {S : zS} (h : jI n S) (a b : Int32) {c : Int32} (hc : -1 ≤ c.toInt ∧ c.toInt ≤ 7) : jI n (B148 a b c S) ∧ A148 a b c (B148 a b c S) = c := by
  have hp := p_B148 a b c S
  have hE := jI_Ppl h
  have kE : jPpl (B148 a b c S) := by
    unfold jPpl at hE ⊢
    unfold B148
    simp only [zup1, Nat.reduceEqDiff, reduceIte, upd_r]
    refine ⟨fun j hj => ?_, hE.2⟩
    split
    · exact hc
    · exact hE.1 j hj
  exact ⟨(by unfold jI; exact ⟨(jSea_k rfl hp (jI_Sea h)), (jKey_k rfl hp (jI_Key h)), (jEng_k rfl hp (jI_Eng h)), kE, (jTok_k rfl hp (jI_Tok h)), (jTim_k rfl hp (jI_Tim h)), (jUse_k rfl hp (jI_Use h)), (jLea_k rfl hp (jI_Lea h)), (jEnd_k rfl hp (jI_End h)), (jLT_k rfl hp (jI_LT h)), (jCnt_k rfl hp (jI_Cnt h)), (jSto_k rfl hp (jI_Sto h)), (jFar_k rfl hp (jI_Far h)), (jWra_k rfl hp (jI_Wra h)), (jCas_k rfl hp (jI_Cas h)), (jCer_k rfl hp (jI_Cer h)), (jSin_k rfl hp (jI_Sin h))⟩), by unfold A148 B148; exact zup_s _ _ _ _⟩
theorem jq150 {n : Nat} {S : zS} (h : jI n S) (a b c d : Int32) : jI n (B150 a b c d S) := by
  have hp := p_B150 a b c d S
  exact (by unfold jI; exact ⟨(jSea_k rfl hp (jI_Sea h)), (jKey_k rfl hp (jI_Key h)), (jEng_k rfl hp (jI_Eng h)), (jPpl_k rfl hp (jI_Ppl h)), (jTok_k rfl hp (jI_Tok h)), (jTim_k rfl hp (jI_Tim h)), (jUse_k rfl hp (jI_Use h)), (jLea_k rfl hp (jI_Lea h)), (jEnd_k rfl hp (jI_End h)), (jLT_k rfl hp (jI_LT h)), (jCnt_k rfl hp (jI_Cnt h)), (jSto_k rfl hp (jI_Sto h)), (jFar_k rfl hp (jI_Far h)), (jWra_k rfl hp (jI_Wra h)), (jCas_k rfl hp (jI_Cas h)), (jCer_k rfl hp (jI_Cer h)), (jSin_k rfl hp (jI_Sin h))⟩)
theorem jq162 {n : Nat} {S : zS} (h : jI n S) (a : Int32) {b : Int32} (hb : zn 2 b) : jI n (B162 a b S) ∧ A162 a b (B162 a b S) = b := by
  have hp := p_B162 a b S
  have hE := jI_Lea h
  have kE : jLea (B162 a b S) := by
    unfold jLea at hE ⊢
    unfold B162
    simp only [zup1, Nat.reduceEqDiff, reduceIte, upd_r]
    refine ⟨hE.1, hE.2.1, hE.2.2.1, hE.2.2.2.1, fun j hj => ?_⟩
    split
    · exact hb
    · exact hE.2.2.2.2 j hj
  exact ⟨(by unfold jI; exact ⟨(jSea_k rfl hp (jI_Sea h)), (jKey_k rfl hp (jI_Key h)), (jEng_k rfl hp (jI_Eng h)), (jPpl_k rfl hp (jI_Ppl h)), (jTok_k rfl hp (jI_Tok h)), (jTim_k rfl hp (jI_Tim h)), (jUse_k rfl hp (jI_Use h)), kE, (jEnd_k rfl hp (jI_End h)), (jLT_k rfl hp (jI_LT h)), (jCnt_k rfl hp (jI_Cnt h)), (jSto_k rfl hp (jI_Sto h)), (jFar_k rfl hp (jI_Far h)), (jWra_k rfl hp (jI_Wra h)), (jCas_k rfl hp (jI_Cas h)), (jCer_k rfl hp (jI_Cer h)), (jSin_k rfl hp (jI_Sin h))⟩), by unfold A162 B162; exact zup_s _ _ _ _⟩
theorem jq180 {n : Nat} {S : zS} (h : jI n S) (a : Int32) {b c d : Int32} (hb : zo b) (hc : zo c) (hd : zn 1000 d) : jI n (B180 a b c d S) := by
  have hp := p_B180 a b c d S
  have hE := jI_Sin h
  have kE : jSin (B180 a b c d S) := by
    unfold jSin at hE ⊢
    unfold B180
    simp only [zup1, Nat.reduceEqDiff, reduceIte, upd_r]
    refine ⟨fun j => ?_, fun j => ?_, fun j hj => ?_, hE.2.2.2⟩
    · split
      · exact hb
      · exact hE.1 j
    · split
      · exact hc
      · exact hE.2.1 j
    · split
      · exact hd
      · exact hE.2.2.1 j hj
  exact (by unfold jI; exact ⟨(jSea_k rfl hp (jI_Sea h)), (jKey_k rfl hp (jI_Key h)), (jEng_k rfl hp (jI_Eng h)), (jPpl_k rfl hp (jI_Ppl h)), (jTok_k rfl hp (jI_Tok h)), (jTim_k rfl hp (jI_Tim h)), (jUse_k rfl hp (jI_Use h)), (jLea_k rfl hp (jI_Lea h)), (jEnd_k rfl hp (jI_End h)), (jLT_k rfl hp (jI_LT h)), (jCnt_k rfl hp (jI_Cnt h)), (jSto_k rfl hp (jI_Sto h)), (jFar_k rfl hp (jI_Far h)), (jWra_k rfl hp (jI_Wra h)), (jCas_k rfl hp (jI_Cas h)), (jCer_k rfl hp (jI_Cer h)), kE⟩)
/-- people -/
theorem jw126 {S : zS} (a b : Int32) (hb : -1 ≤ b.toInt ∧ b.toInt ≤ 7) (h : jTok S) : jTok (K126_2_S a b 0 S) := by
  unfold K126_2_S K126_2
  refine zfold_inv (f := k126_2 a b) (i := 0) (n := (S 5 0).toNatClampNeg - 0) (a := S) (I := fun _ (c : zS) => jTok c) h (fun j c hj hI => ?_)
  unfold k126_2
  split
  · unfold jTok at hI ⊢
    obtain ⟨t1, t2, t3⟩ := hI
    simp only [zup1, Nat.reduceEqDiff, reduceIte, upd_r]
    refine ⟨t1, fun i => ?_, t3⟩
    split
    · exact hb
    · exact t2 i
  · exact hI
theorem jw74 {S : zS} (a b : Int32) (hb : -1 ≤ b.toInt ∧ b.toInt ≤ 7) (hab : ¬ a = b) (h : jPpl S) : jPpl (K74_4_S a b 0 0 S) ∧ 0 ≤ (K74_4_c3 a b 0 0 S).toInt ∧ (K74_4_c3 a b 0 0 S).toInt ≤ 18 ∧ (∀ i, i < 18 → ¬ K74_4_S a b 0 0 S 24 i = a) ∧ ((∀ i, i < 18 → ¬ S 24 i = a) → K74_4_c3 a b 0 0 S = 0) := by
  unfold K74_4_S K74_4_c3 K74_4
  have key := zfold_inv (f := k74_4 a b) (i := 0) (n := 18 - 0) (a := ((0 : Int32), S)) (I := fun j (c : Int32 × zS) => jPpl c.2 ∧ 0 ≤ c.1.toInt ∧ c.1.toInt ≤ j ∧ (∀ i, i < j → ¬ c.2 24 i = a) ∧ ((∀ i, i < 18 → ¬ S 24 i = a) → c.1 = 0 ∧ c.2 = S)) ⟨h, Int.le_refl _, Int.le_refl _, fun i hi => absurd hi (Nat.not_lt_zero _), fun _ => ⟨rfl, rfl⟩⟩ (fun j c hj hI => by
    obtain ⟨i1, i2, i3, i4, i5⟩ := hI
    rw [Nat.zero_add]
    unfold k74_4
    by_cases c0 : c.2 24 j = a
    · simp only [if_pos c0]
      have e1 : (c.1 + 1).toInt = c.1.toInt + 1 := by rw [zk_tadd (by rw [zk_1]; omega) (by rw [zk_1]; omega), zk_1]
      refine ⟨?_, by rw [e1]; omega, by rw [e1]; omega, fun i hi => ?_, fun hh => ?_⟩
      · unfold jPpl at i1 ⊢
        simp only [zup1, Nat.reduceEqDiff, reduceIte, upd_r]
        refine ⟨fun i hi => ?_, i1.2⟩
        split
        · exact hb
        · exact i1.1 i hi
      · rw [zup2, if_pos rfl]
        split
        · exact fun e => hab e.symm
        · exact i4 i (by omega)
      · exact absurd (by rw [← (i5 hh).2]; exact c0) (hh j (by omega))
    · simp only [if_neg c0]
      refine ⟨i1, i2, by omega, fun i hi => ?_, i5⟩
      by_cases hij : i = j
      · subst hij; exact c0
      · exact i4 i (by omega))
  exact ⟨key.1, key.2.1, by have := key.2.2.1; omega, fun i hi => key.2.2.2.1 i (by omega), fun hh => (key.2.2.2.2 hh).1⟩
theorem jq149 {n : Nat} {S : zS} (h : jI n S) {a b : Int32} (hb : 0 ≤ b.toInt ∧ b.toInt ≤ 7) (hab : ¬ a = b) : jI n (B149 a b S) ∧ 0 ≤ (A149 a b S).toInt ∧ (A149 a b S).toInt ≤ 18 ∧ A149 a b (B149 a b S) = 0 := by
  have hp := p_B149 a b S
  unfold A149 B149 at *
  have k1 := p_K126_2_S a b 0 S
  have k2 := p_K75_2_S a b 0 (K126_2_S a b 0 S)
  have k3 := p_K74_4_S a b 0 0 (K75_2_S a b 0 (K126_2_S a b 0 S))
  have t1 := jw126 a b ⟨by omega, hb.2⟩ (jI_Tok h)
  have p1 : jPpl (K75_2_S a b 0 (K126_2_S a b 0 S)) := jPpl_k rfl k2 (jPpl_k rfl k1 (jI_Ppl h))
  obtain ⟨w1, w2, w3, w4, w5⟩ := jw74 a b ⟨by omega, hb.2⟩ hab p1
  have t2 := jTok_k rfl k3 (jTok_k rfl k2 t1)
  refine ⟨(by unfold jI; exact ⟨(jSea_k rfl hp (jI_Sea h)), (jKey_k rfl hp (jI_Key h)), (jEng_k rfl hp (jI_Eng h)), w1, t2, (jTim_k rfl hp (jI_Tim h)), (jUse_k rfl hp (jI_Use h)), (jLea_k rfl hp (jI_Lea h)), (jEnd_k rfl hp (jI_End h)), (jLT_k rfl hp (jI_LT h)), (jCnt_k rfl hp (jI_Cnt h)), (jSto_k rfl hp (jI_Sto h)), (jFar_k rfl hp (jI_Far h)), (jWra_k rfl hp (jI_Wra h)), (jCas_k rfl hp (jI_Cas h)), (jCer_k rfl hp (jI_Cer h)), (jSin_k rfl hp (jI_Sin h))⟩), w2, w3, ?_⟩
  have p2 : jPpl (K75_2_S a b 0 (K126_2_S a b 0 (K74_4_S a b 0 0 (K75_2_S a b 0 (K126_2_S a b 0 S))))) := jPpl_k rfl (p_K75_2_S a b 0 _) (jPpl_k rfl (p_K126_2_S a b 0 _) w1)
  refine (jw74 a b ⟨by omega, hb.2⟩ hab p2).2.2.2.2 (fun i hi => ?_)
  rw [(p_K75_2_S a b 0 _).1 24 rfl, (p_K126_2_S a b 0 _).1 24 rfl]
  exact w4 i hi
