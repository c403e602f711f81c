/-! mounting -/
theorem jw111 {S : zS} (a b : Int32) : (∀ p, K111_7_2_S a b a.toNatClampNeg S 51 p = if a.toNatClampNeg ≤ p ∧ p < b.toNatClampNeg then 0 else S 51 p) ∧ (∀ p, K111_9_2_S a b a.toNatClampNeg S 59 p = if a.toNatClampNeg ≤ p ∧ p < b.toNatClampNeg then 0 else S 59 p) := by
  refine ⟨?_, ?_⟩
  · unfold K111_7_2_S K111_7_2
    have key := zfold_inv (f := k111_7_2 a b) (i := a.toNatClampNeg) (n := b.toNatClampNeg - a.toNatClampNeg) (a := S) (I := fun j (c : zS) => ∀ p, c 51 p = if a.toNatClampNeg ≤ p ∧ p < a.toNatClampNeg + j then 0 else S 51 p) (fun p => by rw [if_neg (by omega)]) (fun j c hj hI p => by
      unfold k111_7_2
      rw [zup2, if_pos rfl, hI p]
      by_cases hp : p = a.toNatClampNeg + j
      · rw [if_pos hp, if_pos (by omega)]
      · rw [if_neg hp]
        by_cases h2 : a.toNatClampNeg ≤ p ∧ p < a.toNatClampNeg + j
        · rw [if_pos h2, if_pos (by omega)]
        · rw [if_neg h2, if_neg (by omega)])
    intro p
    rw [key p]
    by_cases h2 : a.toNatClampNeg ≤ p ∧ p < b.toNatClampNeg
    · rw [if_pos h2, if_pos (by omega)]
    · rw [if_neg h2, if_neg (by omega)]
  · unfold K111_9_2_S K111_9_2
    have key := zfold_inv (f := k111_9_2 a b) (i := a.toNatClampNeg) (n := b.toNatClampNeg - a.toNatClampNeg) (a := S) (I := fun j (c : zS) => ∀ p, c 59 p = if a.toNatClampNeg ≤ p ∧ p < a.toNatClampNeg + j then 0 else S 59 p) (fun p => by rw [if_neg (by omega)]) (fun j c hj hI p => by
      unfold k111_9_2
      rw [zup2, if_pos rfl, hI p]
      by_cases hp : p = a.toNatClampNeg + j
      · rw [if_pos hp, if_pos (by omega)]
      · rw [if_neg hp]
        by_cases h2 : a.toNatClampNeg ≤ p ∧ p < a.toNatClampNeg + j
        · rw [if_pos h2, if_pos (by omega)]
        · rw [if_neg h2, if_neg (by omega)])
    intro p
    rw [key p]
    by_cases h2 : a.toNatClampNeg ≤ p ∧ p < b.toNatClampNeg
    · rw [if_pos h2, if_pos (by omega)]
    · rw [if_neg h2, if_neg (by omega)]
/-- what has been done of the log's thinning -/
def jCo (a b : Int32) (sh : Nat) (M : zS) (m : Nat) (acc : Int32) (R : zS) : Prop := zkp [55, 56, 57, 58] [] M R ∧ (sh : Int) ≤ acc.toInt ∧ acc.toInt ≤ (sh : Int) + m ∧ (∀ e, sh + m ≤ e → R 55 e = M 55 e ∧ R 58 e = M 58 e) ∧ zA 512 216 (R 55) ∧ (∀ p : Nat, p < 216 → ¬ ((a.toInt ≤ p) ∧ (p : Int) < b.toInt) → jP (R 55) (R 58) p sh (acc.toNatClampNeg - sh) = jP (M 55) (M 58) p sh m) ∧ (∀ p : Nat, p < 216 → a.toInt ≤ p → (p : Int) < b.toInt → jP (R 55) (R 58) p sh (acc.toNatClampNeg - sh) = 0)
theorem jco1 {a b : Int32} {sh m : Nat} {M R : zS} {acc : Int32} (hm : sh + m < 512) (h : jCo a b sh M m acc R) : jCo a b sh M (m + 1) (k18_11 a b (sh + m) (acc, R)).1 (k18_11 a b (sh + m) (acc, R)).2 := by
  obtain ⟨k, i1, i2, i3, i4, i5, i6⟩ := h
  have hpe := zx_iff.mp (i4 (sh + m) (by omega))
  have e1 : (acc + 1).toInt = acc.toInt + 1 := by rw [zk_tadd (by rw [zk_1]; omega) (by rw [zk_1]; omega), zk_1]
  have hna := zk_nat (x := acc) (by omega)
  have hna1 := zk_nat (x := acc + 1) (by omega)
  have ex := zk_ix (sh + m) (by omega)
  have hno := zk_of hpe.1
  have hnp := zk_nat hpe.1
  obtain ⟨q1, q2⟩ := i3 (sh + m) (Nat.le_refl _)
  -- the entry is kept
  have keep : ¬ (a.toInt ≤ (R 55 (sh + m)).toInt ∧ (R 55 (sh + m)).toInt < b.toInt) → jCo a b sh M (m + 1) (acc + 1) (G20 (Int32.ofNat (sh + m)) acc R) := by
    intro ho
    have r55 : G20 (Int32.ofNat (sh + m)) acc R 55 = upd (R 55) acc.toNatClampNeg (R 55 (sh + m)) := by simp only [G20, zup1, Nat.reduceEqDiff, reduceIte]; rw [ex]
    have r58 : G20 (Int32.ofNat (sh + m)) acc R 58 = upd (R 58) acc.toNatClampNeg (R 58 (sh + m)) := by simp only [G20, zup1, Nat.reduceEqDiff, reduceIte]; rw [ex]
    have hl : (acc + 1).toNatClampNeg - sh = (acc.toNatClampNeg - sh) + 1 := by omega
    have hs : sh + (acc.toNatClampNeg - sh) = acc.toNatClampNeg := by omega
    have hj : ∀ p, jP (upd (R 55) acc.toNatClampNeg (R 55 (sh + m))) (upd (R 58) acc.toNatClampNeg (R 58 (sh + m))) p sh ((acc.toNatClampNeg - sh) + 1) = jP (R 55) (R 58) p sh (acc.toNatClampNeg - sh) + (if R 55 (sh + m) = Int32.ofNat p ∧ ¬ R 58 (sh + m) = 0 then 1 else 0) := fun p => by
      show jP _ _ p sh (acc.toNatClampNeg - sh) + (if (upd (R 55) acc.toNatClampNeg (R 55 (sh + m))) (sh + (acc.toNatClampNeg - sh)) = Int32.ofNat p ∧ ¬ (upd (R 58) acc.toNatClampNeg (R 58 (sh + m))) (sh + (acc.toNatClampNeg - sh)) = 0 then 1 else 0) = _
      rw [jP_cg (pa := R 55) (ke := R 58) (fun i hi => ⟨by rw [upd_r, if_neg (by omega)], by rw [upd_r, if_neg (by omega)]⟩), hs, upd_r, if_pos rfl, upd_r, if_pos rfl]
    refine ⟨zkp_tr k (p_G20 _ _ _) rfl rfl, by omega, by omega, fun e he => ?_, fun j hj2 => ?_, fun p hp ho2 => ?_, fun p hp h1 h2 => ?_⟩
    · rw [r55, r58, upd_r, if_neg (by omega), upd_r, if_neg (by omega)]; exact i3 e (by omega)
    · rw [r55, upd_r]; split
      · exact i4 _ (by omega)
      · exact i4 j hj2
    · rw [r55, r58, hl, hj p, i5 p hp ho2, q1, q2]; rfl
    · rw [r55, r58, hl, hj p, i6 p hp h1 h2, if_neg (fun e9 => ho (by
        have := zk_ti p (by omega)
        rw [e9.1, this]; exact ⟨h1, h2⟩))]
  unfold k18_11
  dsimp only
  by_cases c0 : R 55 (sh + m) < a
  · rw [if_pos c0, if_pos c0]
    rw [zk_lt] at c0
    exact keep (fun e => by omega)
  · rw [if_neg c0, if_neg c0]
    by_cases c1 : R 55 (sh + m) < b
    · rw [if_pos c1, if_pos c1]
      rw [zk_lt] at c0 c1
      refine ⟨k, i1, by omega, fun e he => i3 e (by omega), i4, fun p hp ho2 => ?_, i6⟩
      rw [i5 p hp ho2]
      show _ = jP (M 55) (M 58) p sh m + (if M 55 (sh + m) = Int32.ofNat p ∧ ¬ M 58 (sh + m) = 0 then 1 else 0)
      rw [if_neg (fun e9 => ho2 (by
        have h9 := zk_ti p (by omega)
        rw [← q1] at e9
        rw [e9.1, h9] at c0 c1; omega))]
      omega
    · rw [if_neg c1, if_neg c1]
      rw [zk_lt] at c1
      exact keep (fun e => by omega)
theorem jforget {n : Nat} {S : zS} (hn : n < 500) (a b : Int32) (h : jFar n S) (hS : jSto n S) (ha : 0 ≤ a.toInt ∧ a.toInt ≤ 216) (hb : a.toInt ≤ b.toInt ∧ b.toInt ≤ 216) : jFar n (G18 a b (K111_7_2_S a b a.toNatClampNeg S)) ∧ jSto n (G18 a b (K111_7_2_S a b a.toNatClampNeg S)) ∧ zkp [51, 55, 56, 57, 58, 59, 8] [8005] S (G18 a b (K111_7_2_S a b a.toNatClampNeg S)) ∧ (∀ p : Nat, a.toInt ≤ p → (p : Int) < b.toInt → G18 a b (K111_7_2_S a b a.toNatClampNeg S) 51 p = 0) := by
  have k1 := p_K111_7_2_S a b a.toNatClampNeg S
  have r51 := (jw111 (S := S) a b).1
  have hna := zk_nat ha.1
  have hnb := zk_nat (x := b) (by omega)
  generalize hA : K111_7_2_S a b a.toNatClampNeg S = A at k1 r51 ⊢
  have k2 := p_K111_9_2_S a b a.toNatClampNeg A
  have r59 := (jw111 (S := A) a b).2
  have k3 := p_G18 a b A
  generalize hM : K111_9_2_S a b a.toNatClampNeg A = M at k2 r59
  have kM : zkp [51, 59] [] S M := zkp_tr (zkp_tr zkp_S k1 rfl rfl) k2 rfl rfl
  unfold jFar at h
  obtain ⟨h1, h2, h3, h4, h5⟩ := h
  have hn1 := zk_nat h1.1
  have hn2 := zk_nat h2.1
  unfold zn at h1 h2
  have m85 : M 8 5 = S 8 5 := congrFun (kM.1 8 rfl) 5
  have m86 : M 8 6 = S 8 6 := congrFun (kM.1 8 rfl) 6
  have hG : G18 a b A = z_up (K18_11_S a b (M 8 6) (M 8 6).toNatClampNeg M) 8 5 (K18_11_c3 a b (M 8 6) (M 8 6).toNatClampNeg M) := by unfold G18; rw [hM]
  have co : jCo a b (S 8 6).toNatClampNeg M ((S 8 5).toNatClampNeg - (S 8 6).toNatClampNeg) (K18_11_c3 a b (M 8 6) (M 8 6).toNatClampNeg M) (K18_11_S a b (M 8 6) (M 8 6).toNatClampNeg M) := by
    unfold K18_11_c3 K18_11_S K18_11
    rw [m85, m86]
    have c0 : jCo a b (S 8 6).toNatClampNeg M 0 (S 8 6) M := ⟨zkp_S, by omega, by omega, fun e _ => ⟨rfl, rfl⟩, by rw [kM.1 55 rfl]; exact h4, fun p _ _ => by rw [Nat.sub_self], fun p _ _ _ => by rw [Nat.sub_self]; rfl⟩
    exact zfold_inv (f := k18_11 a b) (i := (S 8 6).toNatClampNeg) (n := (S 8 5).toNatClampNeg - (S 8 6).toNatClampNeg) (a := (S 8 6, M)) (I := fun m (c : Int32 × zS) => jCo a b (S 8 6).toNatClampNeg M m c.1 c.2) c0 (fun j c hj hI => jco1 (by omega) hI)
  obtain ⟨c1, c2, c3, c4, c5, c6, c7⟩ := co
  generalize K18_11_S a b (M 8 6) (M 8 6).toNatClampNeg M = R at c1 c4 c5 c6 c7 hG
  generalize K18_11_c3 a b (M 8 6) (M 8 6).toNatClampNeg M = acc at c2 c3 c6 c7 hG
  have hnacc := zk_nat (x := acc) (by omega)
  have g85 : G18 a b A 8 5 = acc := by rw [hG]; exact zup_s _ _ _ _
  have g86 : G18 a b A 8 6 = S 8 6 := by rw [hG, zupf rfl, c1.1 8 rfl]; exact m86
  have g55 : G18 a b A 55 = R 55 := by rw [hG]; exact zupc rfl
  have g58 : G18 a b A 58 = R 58 := by rw [hG]; exact zupc rfl
  have g59 : G18 a b A 59 = M 59 := by rw [hG, zupc rfl]; exact c1.1 59 rfl
  have g51 : G18 a b A 51 = A 51 := k3.1 51 rfl
  refine ⟨?_, ?_, zkp_tr (zkp_tr zkp_S k1 rfl rfl) k3 rfl rfl, fun p hp1 hp2 => ?_⟩
  · unfold jFar
    rw [g85, g86, g55, g58, g59, g51]
    refine ⟨by unfold zn; omega, by unfold zn; omega, by omega, c5, fun p hp => ?_⟩
    obtain ⟨f1, f2⟩ := h5 p hp
    rw [r59 p, r51 p]
    by_cases hr : a.toInt ≤ p ∧ (p : Int) < b.toInt
    · rw [if_pos (by omega), if_pos (by omega), c7 p hp hr.1 hr.2]
      exact ⟨by decide, by decide⟩
    · rw [if_neg (by omega), if_neg (by omega), c6 p hp hr, kM.1 55 rfl, kM.1 58 rfl, k1.1 59 rfl]
      exact ⟨f1, f2⟩
  · unfold jSto at hS ⊢
    rw [g51, k3.1 52 rfl, k3.1 53 rfl, k3.1 54 rfl, k1.1 52 rfl, k1.1 53 rfl, k1.1 54 rfl]
    refine ⟨fun p hp => ?_, hS.2⟩
    rw [r51 p]; split
    · unfold zn; rw [jk_0]; omega
    · exact hS.1 p hp
  · rw [g51, r51 p, if_pos (by omega)]
theorem jw35 {S : zS} (a b : Int32) (h : jCas S) : jCas (K35_2_S a b 0 S) := by
  have hcl := zn_cl (rCas_0 h)
  unfold K35_2_S K35_2
  refine (zfold_inv (f := k35_2 a b) (i := 0) (n := (S 10 4).toNatClampNeg - 0) (a := S) (I := fun _ (c : zS) => jCas c ∧ c 10 4 = S 10 4) ⟨h, rfl⟩ (fun j c hj hI => ?_)).1
  obtain ⟨i1, i2⟩ := hI
  rw [Nat.zero_add]
  have hz : jCas (z_up c 71 j 1) := by
    unfold jCas at i1 ⊢
    obtain ⟨q1, q2, q3⟩ := i1
    simp only [zup1, Nat.reduceEqDiff, reduceIte, upd_r]
    refine ⟨q1, fun i hi => ?_, q3⟩
    rw [if_neg (by rw [i2] at hi; omega)]; exact q2 i hi
  unfold k35_2
  split
  · exact ⟨i1, i2⟩
  · split
    · exact ⟨i1, i2⟩
    · exact ⟨hz, (zupci rfl).trans i2⟩
theorem jmnt {n : Nat} {S : zS} (h : jI n S) {a b c : Int32} (hb : -1 ≤ b.toInt ∧ b.toInt ≤ 2) (hc : zx 3 c) : jI n (z_up (z_up S 16 a.toNatClampNeg b) 17 a.toNatClampNeg c) := by
  have hp : zkp [16, 17] [] S (z_up (z_up S 16 a.toNatClampNeg b) 17 a.toNatClampNeg c) := zkp_up (zkp_up zkp_S rfl rfl) rfl rfl
  have kE : jEng (z_up (z_up S 16 a.toNatClampNeg b) 17 a.toNatClampNeg c) := by
    have hE := jI_Eng h
    unfold jEng at hE ⊢
    simp only [zup1, Nat.reduceEqDiff, reduceIte, upd_r]
    refine ⟨fun f hf => ?_, fun f hf => ?_, hE.2.2⟩
    · split
      · exact hb
      · exact hE.1 f hf
    · rw [upd_r]; split
      · exact hc
      · exact hE.2.1 f hf
  exact (by unfold jI; exact ⟨(jSea_k rfl hp (jI_Sea h)), (jKey_k rfl hp (jI_Key h)), kE, (jPpl_k rfl hp (jI_Ppl h)), (jTok_k rfl hp (jI_Tok h)), (jTim_k rfl hp (jI_Tim h)), (jUse_k rfl hp (jI_Use h)), (jLea_k rfl hp (jI_Lea h)), (jEnd_k rfl hp (jI_End h)), (jLT_k rfl hp (jI_LT h)), (jCnt_k rfl hp (jI_Cnt h)), (jSto_k rfl hp (jI_Sto h)), (jFar_k rfl hp (jI_Far h)), (jWra_k rfl hp (jI_Wra h)), (jCas_k rfl hp (jI_Cas h)), (jCer_k rfl hp (jI_Cer h)), (jSin_k rfl hp (jI_Sin h))⟩)
theorem jq143a {n : Nat} {S : zS} (h : jI n S) {a b c : Int32} (hb : 0 ≤ b.toInt ∧ b.toInt ≤ 2) (hc : zx 3 c) : jI n (B143 a b c S) ∧ B143 a b c S 16 = upd (S 16) a.toNatClampNeg b ∧ zkp [16, 17] [] S (B143 a b c S) := by
  have hne : ¬ b = -1 := fun e => by rw [e] at hb; exact absurd hb.1 (by decide)
  unfold B143
  rw [if_neg hne]
  exact ⟨jmnt h ⟨by omega, hb.2⟩ hc, by simp only [zup1, Nat.reduceEqDiff, reduceIte], zkp_up (zkp_up zkp_S rfl rfl) rfl rfl⟩
theorem jq143b {n : Nat} {S : zS} (hn : n < 500) (h : jI n S) {a : Int32} (ha : 0 ≤ a.toInt ∧ a.toInt < 6) : jI n (B143 a (-1) 0 S) ∧ B143 a (-1) 0 S 16 = upd (S 16) a.toNatClampNeg (-1) ∧ (∀ p : Nat, a.toInt * 36 ≤ p → (p : Int) < a.toInt * 36 + 36 → B143 a (-1) 0 S 51 p = 0) ∧ (∀ i, i < (B143 a (-1) 0 S 6 0).toNatClampNeg → B143 a (-1) 0 S 46 i = 0 → B143 a (-1) 0 S 42 i < a * 36 ∨ (a * 36) + 36 ≤ B143 a (-1) 0 S 42 i) := by
  have hp := p_B143 a (-1) 0 S
  unfold B143 at *
  rw [if_pos rfl] at *
  have hM := jmnt h (a := a) (b := -1) (c := 0) (by decide) (by rw [zx_iff]; decide)
  have e16 : z_up (z_up S 16 a.toNatClampNeg (-1)) 17 a.toNatClampNeg 0 16 = upd (S 16) a.toNatClampNeg (-1) := by simp only [zup1, Nat.reduceEqDiff, reduceIte]
  generalize z_up (z_up S 16 a.toNatClampNeg (-1)) 17 a.toNatClampNeg 0 = S1 at hM e16 hp ⊢
  have e36 : (a * 36).toInt = a.toInt * 36 := by rw [zk_tmul (by rw [jk_36]; omega) (by rw [jk_36]; omega), jk_36]
  have e72 : ((a * 36) + 36).toInt = a.toInt * 36 + 36 := by rw [zk_tadd (by rw [jk_36]; omega) (by rw [jk_36]; omega), e36, jk_36]
  obtain ⟨f1, f2, f3, f4⟩ := jforget hn (a * 36) ((a * 36) + 36) (jI_Far hM) (jI_Sto hM) (by omega) (by omega)
  have kk : G209 a S1 = K35_2_S (a * 36) ((a * 36) + 36) 0 (K53_4_S (a * 36) ((a * 36) + 36) ((G18 (a * 36) ((a * 36) + 36) (K111_7_2_S (a * 36) ((a * 36) + 36) (a * 36).toNatClampNeg S1)) 0 11) 0 0 (G18 (a * 36) ((a * 36) + 36) (K111_7_2_S (a * 36) ((a * 36) + 36) (a * 36).toNatClampNeg S1))) := rfl
  rw [kk]
  generalize G18 (a * 36) ((a * 36) + 36) (K111_7_2_S (a * 36) ((a * 36) + 36) (a * 36).toNatClampNeg S1) = A at f1 f2 f3 f4 ⊢
  have hA : jI n A := (by unfold jI; exact ⟨(jSea_k rfl f3 (jI_Sea hM)), (jKey_k rfl f3 (jI_Key hM)), (jEng_k rfl f3 (jI_Eng hM)), (jPpl_k rfl f3 (jI_Ppl hM)), (jTok_k rfl f3 (jI_Tok hM)), (jTim_k rfl f3 (jI_Tim hM)), (jUse_k rfl f3 (jI_Use hM)), (jLea_k rfl f3 (jI_Lea hM)), (jEnd_k rfl f3 (jI_End hM)), (jLT_k rfl f3 (jI_LT hM)), (jCnt_k rfl f3 (jI_Cnt hM)), f2, f1, (jWra_k rfl f3 (jI_Wra hM)), (jCas_k rfl f3 (jI_Cas hM)), (jCer_k rfl f3 (jI_Cer hM)), (jSin_k rfl f3 (jI_Sin hM))⟩)
  have hB := jw53I (a * 36) ((a * 36) + 36) (by omega) hA (x := A 0 11) rfl
  obtain ⟨_, _, w3, w4, _⟩ := jw53 (a * 36) ((a * 36) + 36) (by omega) (jL_J (jI_J hA)) (x := A 0 11) rfl
  have kB := p_K53_4_S (a * 36) ((a * 36) + 36) (A 0 11) 0 0 A
  generalize K53_4_S (a * 36) ((a * 36) + 36) (A 0 11) 0 0 A = B at hB w3 w4 kB ⊢
  have kC := p_K35_2_S (a * 36) ((a * 36) + 36) 0 B
  have hC : jI n (K35_2_S (a * 36) ((a * 36) + 36) 0 B) := (by unfold jI; exact ⟨(jSea_k rfl kC (jI_Sea hB)), (jKey_k rfl kC (jI_Key hB)), (jEng_k rfl kC (jI_Eng hB)), (jPpl_k rfl kC (jI_Ppl hB)), (jTok_k rfl kC (jI_Tok hB)), (jTim_k rfl kC (jI_Tim hB)), (jUse_k rfl kC (jI_Use hB)), (jLea_k rfl kC (jI_Lea hB)), (jEnd_k rfl kC (jI_End hB)), (jLT_k rfl kC (jI_LT hB)), (jCnt_k rfl kC (jI_Cnt hB)), (jSto_k rfl kC (jI_Sto hB)), (jFar_k rfl kC (jI_Far hB)), (jWra_k rfl kC (jI_Wra hB)), (jw35 _ _ (jI_Cas hB)), (jCer_k rfl kC (jI_Cer hB)), (jSin_k rfl kC (jI_Sin hB))⟩)
  refine ⟨hC, by rw [kC.1 16 rfl, kB.1 16 rfl, f3.1 16 rfl]; exact e16, fun p h1 h2 => ?_, fun i hi e => ?_⟩
  · rw [kC.1 51 rfl, kB.1 51 rfl]; exact f4 p (by omega) (by omega)
  · rw [kC.1 6 rfl, kB.1 6 rfl] at hi
    rw [kC.1 46 rfl] at e
    rw [kC.1 42 rfl, kB.1 42 rfl]
    exact w4 i hi e
