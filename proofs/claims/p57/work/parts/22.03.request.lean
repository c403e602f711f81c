/-! requests: what refuses them first, and what is done behind them -/
theorem jk_31 : (31 : Int32).toInt = 31 := rfl
theorem jk_7 : (7 : Int32).toInt = 7 := rfl
theorem jk_1000 : (1000 : Int32).toInt = 1000 := rfl
theorem jk_60000 : (60000 : Int32).toInt = 60000 := rfl
theorem jk_65521 : (65521 : Int32).toInt = 65521 := rfl
theorem jUm_k {a : Nat} {S S' : zS} (k5 : S' 5 0 = S 5 0) (k40 : S' 40 = S 40) (k37 : S' 37 = S 37) (h : jUm a S) : jUm a S' := by
  unfold jUm at *
  rw [k5, k40, k37]; exact h
theorem jite3 {P Q : Prop} [Decidable P] [Decidable Q] : (if P then ((if Q then ((-6) : Int32) else 0) : Int32) else (-5)) = -5 ∨ (if P then ((if Q then ((-6) : Int32) else 0) : Int32) else (-5)) = -6 ∨ (if P then ((if Q then ((-6) : Int32) else 0) : Int32) else (-5)) = 0 := by
  split
  · split
    · exact Or.inr (Or.inl rfl)
    · exact Or.inr (Or.inr rfl)
  · exact Or.inl rfl
/-- what the first part of a request answers -/
theorem jadm {n : Nat} {S : zS} (h : jI n S) (a b c d : Int32) : zkp [19, 37] [] S (G196 a b c d S) ∧ jJ n (G196 a b c d S) ∧ jUm a.toNatClampNeg (G196 a b c d S) ∧ ((S 1 6 = 0 ∧ F196 a b c d S = -2 ∧ G196 a b c d S = S) ∨ (¬ S 1 6 = 0 ∧ (F196 a b c d S = -3 ∨ F196 a b c d S = -4) ∧ G196 a b c d S = S) ∨ (¬ S 1 6 = 0 ∧ (F196 a b c d S = -5 ∨ F196 a b c d S = -6 ∨ F196 a b c d S = 0) ∧ 0 ≤ a.toInt ∧ a.toInt < (S 5 0).toInt ∧ S 40 a.toNatClampNeg = 0)) := by
  have hJ := jI_J h
  have hU := jUm_of (a := a.toNatClampNeg) (jI_Use h)
  by_cases c0 : S 1 6 = 0
  · have e1 : F196 a b c d S = -2 := by unfold F196; rw [if_pos c0]
    have e2 : G196 a b c d S = S := by unfold G196; rw [if_pos c0]
    rw [e1, e2]
    exact ⟨zkp_S, hJ, hU, Or.inl ⟨c0, rfl, rfl⟩⟩
  · by_cases c1 : F101 S = 0
    · by_cases c2 : (((¬ (a < 0)) ∧ (¬ ((S 5 0) ≤ a))) ∧ (((S 40 a.toNatClampNeg) = 0) ∧ (((zshr (S 38 a.toNatClampNeg) b) &&& 1) = 1)))
      · have hF : F196 a b c d S = -5 ∨ F196 a b c d S = -6 ∨ F196 a b c d S = 0 := by
          unfold F196
          rw [if_neg c0, if_pos c1, if_pos c2]
          exact jite3
        have hY : ∀ Y : zS, Y = (if ((S 37 a.toNatClampNeg) ≤ 0) then S else (z_up S 37 a.toNatClampNeg ((S 37 a.toNatClampNeg) - 1))) → zkp [19, 37] [] S Y ∧ jJ n Y ∧ jUm a.toNatClampNeg Y := by
          intro Y hY
          by_cases c3 : S 37 a.toNatClampNeg ≤ 0
          · rw [if_pos c3] at hY; subst hY; exact ⟨zkp_S, hJ, hU⟩
          · rw [if_neg c3] at hY; subst hY
            have hp : zkp [19, 37] [] S (z_up S 37 a.toNatClampNeg ((S 37 a.toNatClampNeg) - 1)) := zkp_up zkp_S rfl rfl
            have hT := jI_Tok h
            have h37 := rTok_5 hT a.toNatClampNeg
            rw [zk_le, jk_0] at c3
            have e1 : ((S 37 a.toNatClampNeg) - 1).toInt = (S 37 a.toNatClampNeg).toInt - 1 := by rw [zk_tsub (by rw [zk_1]; omega) (by rw [zk_1]; omega), zk_1]
            have hT2 : jTok (z_up S 37 a.toNatClampNeg ((S 37 a.toNatClampNeg) - 1)) := by
              unfold jTok at hT ⊢
              obtain ⟨t1, t2, t3, t4, t5, t6, t7⟩ := hT
              simp only [zup2, Nat.reduceEqDiff, reduceIte]
              refine ⟨t1, t2, t3, t4, t5, fun j => ?_, t7⟩
              split
              · rw [e1]; omega
              · exact t6 j
            refine ⟨hp, (by unfold jJ; exact ⟨(jSea_k rfl hp (jJ_Sea hJ)), (jKey_k rfl hp (jJ_Key hJ)), (jEng_k rfl hp (jJ_Eng hJ)), (jPpl_k rfl hp (jJ_Ppl hJ)), hT2, (jTim_k rfl hp (jJ_Tim hJ)), (jLea_k rfl hp (jJ_Lea hJ)), (jEnd_k rfl hp (jJ_End hJ)), (jLT_k rfl hp (jJ_LT hJ)), (jCnt_k rfl hp (jJ_Cnt hJ)), (jSto_k rfl hp (jJ_Sto hJ)), (jFar_k rfl hp (jJ_Far hJ)), (jWra_k rfl hp (jJ_Wra hJ)), (jCas_k rfl hp (jJ_Cas hJ)), (jCer_k rfl hp (jJ_Cer hJ)), (jSin_k rfl hp (jJ_Sin hJ))⟩), ?_⟩
            unfold jUm at hU ⊢
            simp only [zup2, Nat.reduceEqDiff, reduceIte]
            intro j hj hne e
            rw [if_neg hne]; exact hU j hj hne e
        obtain ⟨y1, y2, y3⟩ := hY _ rfl
        have hG : zkp [19, 37] [] S (G196 a b c d S) ∧ jJ n (G196 a b c d S) ∧ jUm a.toNatClampNeg (G196 a b c d S) := by
          unfold G196
          rw [if_neg c0, if_pos c1, if_pos c2]
          generalize (if ((S 37 a.toNatClampNeg) ≤ 0) then S else (z_up S 37 a.toNatClampNeg ((S 37 a.toNatClampNeg) - 1))) = Y at *
          split
          · have hp : zkp [19] [] Y (z_up Y 19 (c / 36).toNatClampNeg ((Y 19 (c / 36).toNatClampNeg) + 1)) := zkp_up zkp_S rfl rfl
            exact ⟨zkp_tr y1 hp rfl rfl, (by unfold jJ; exact ⟨(jSea_k rfl hp (jJ_Sea y2)), (jKey_k rfl hp (jJ_Key y2)), (jEng_k rfl hp (jJ_Eng y2)), (jPpl_k rfl hp (jJ_Ppl y2)), (jTok_k rfl hp (jJ_Tok y2)), (jTim_k rfl hp (jJ_Tim y2)), (jLea_k rfl hp (jJ_Lea y2)), (jEnd_k rfl hp (jJ_End y2)), (jLT_k rfl hp (jJ_LT y2)), (jCnt_k rfl hp (jJ_Cnt y2)), (jSto_k rfl hp (jJ_Sto y2)), (jFar_k rfl hp (jJ_Far y2)), (jWra_k rfl hp (jJ_Wra y2)), (jCas_k rfl hp (jJ_Cas y2)), (jCer_k rfl hp (jJ_Cer y2)), (jSin_k rfl hp (jJ_Sin y2))⟩), jUm_k (congrFun (hp.1 5 rfl) 0) (hp.1 40 rfl) (hp.1 37 rfl) y3⟩
          · exact ⟨y1, y2, y3⟩
        have c2' := c2.1
        rw [zk_lt, zk_le, jk_0] at c2'
        exact ⟨hG.1, hG.2.1, hG.2.2, Or.inr (Or.inr ⟨c0, hF, by omega, by omega, c2.2.1⟩)⟩
      · have e1 : F196 a b c d S = -4 := by unfold F196; rw [if_neg c0, if_pos c1, if_neg c2]
        have e2 : G196 a b c d S = S := by unfold G196; rw [if_neg c0, if_pos c1, if_neg c2]
        rw [e1, e2]
        exact ⟨zkp_S, hJ, hU, Or.inr (Or.inl ⟨c0, Or.inr rfl, rfl⟩)⟩
    · have e1 : F196 a b c d S = -3 := by unfold F196; rw [if_neg c0, if_neg c1]
      have e2 : G196 a b c d S = S := by unfold G196; rw [if_neg c0, if_neg c1]
      rw [e1, e2]
      exact ⟨zkp_S, hJ, hU, Or.inr (Or.inl ⟨c0, Or.inl rfl, rfl⟩)⟩
/-- a hash goes on -/
theorem jhash {h x5 x6 s : Int32} (hh : zx 65521 h) (h5 : zn 70000 x5) (h6 : zn 10000 x6) (hs : zn 1000 s) : zx 65521 (zrem (((31 * h) + x6) + (x5 * s)) 65521) := by
  rw [zx_iff] at *
  unfold zn at *
  have e1 : (31 * h).toInt = 31 * h.toInt := by rw [zk_tmul (by rw [jk_31]; omega) (by rw [jk_31]; omega), jk_31]
  have e2 : ((31 * h) + x6).toInt = 31 * h.toInt + x6.toInt := by rw [zk_tadd (by omega) (by omega), e1]
  have m0 : 0 ≤ x5.toInt * s.toInt := Int.mul_nonneg h5.1 hs.1
  have m1 : x5.toInt * s.toInt ≤ 70000 * 1000 := Int.mul_le_mul h5.2 hs.2 hs.1 (by decide)
  have e3 : (x5 * s).toInt = x5.toInt * s.toInt := zk_tmul (by omega) (by omega)
  have e4 : (((31 * h) + x6) + (x5 * s)).toInt = 31 * h.toInt + x6.toInt + x5.toInt * s.toInt := by rw [zk_tadd (by omega) (by omega), e2, e3]
  have e5 := zrem_nn (x := ((31 * h) + x6) + (x5 * s)) (y := 65521) (by decide) (by omega)
  rw [jk_65521] at e5
  have := Int.emod_nonneg (((31 * h) + x6) + (x5 * s)).toInt (b := 65521) (by decide)
  have := Int.emod_lt_of_pos (((31 * h) + x6) + (x5 * s)).toInt (b := 65521) (by decide)
  omega
theorem jtell {S : zS} (h : jSin S) {a b d : Int32} (c : Int32) (ha : zn 40 a) (hb : zx 216 b) (hd0 : -13 ≤ d.toInt) (hd1 : d.toInt ≤ 9999) : jSin (G102 a b c d S) := by
  unfold G102 K102_21_S K102_21
  have h5 : zn 70000 (if (0 ≤ d) then (d : Int32) else (60000 + d)) := by
    split
    · next h0 => rw [zk_le, jk_0] at h0; unfold zn; omega
    · next h0 => rw [zk_le, jk_0] at h0; unfold zn; rw [zk_tadd (by rw [jk_60000]; omega) (by rw [jk_60000]; omega), jk_60000]; omega
  have h6 : zn 10000 (((7 * a) + b) + (1000 * (if (c.toInt = 2) then (1 : Int32) else (if (c.toInt = 4) then (2 : Int32) else (if (c.toInt = 8) then (3 : Int32) else 0))))) := by
    rw [zx_iff] at hb
    unfold zn at *
    have e1 : (7 * a).toInt = 7 * a.toInt := by rw [zk_tmul (by rw [jk_7]; omega) (by rw [jk_7]; omega), jk_7]
    have e2 : ((7 * a) + b).toInt = 7 * a.toInt + b.toInt := by rw [zk_tadd (by omega) (by omega), e1]
    have e3 : 0 ≤ (1000 * (if (c.toInt = 2) then (1 : Int32) else (if (c.toInt = 4) then (2 : Int32) else (if (c.toInt = 8) then (3 : Int32) else 0)))).toInt ∧ (1000 * (if (c.toInt = 2) then (1 : Int32) else (if (c.toInt = 4) then (2 : Int32) else (if (c.toInt = 8) then (3 : Int32) else 0)))).toInt ≤ 3000 := by
      (repeat' split) <;> decide
    rw [zk_tadd (by omega) (by omega), e2]; omega
  generalize (if (0 ≤ d) then (d : Int32) else (60000 + d)) = x5 at *
  generalize (((7 * a) + b) + (1000 * (if (c.toInt = 2) then (1 : Int32) else (if (c.toInt = 4) then (2 : Int32) else (if (c.toInt = 8) then (3 : Int32) else 0))))) = x6 at *
  refine zfold_inv (f := k102_21 a b c d x5 x6) (i := 0) (n := 3 - 0) (a := S) (I := fun _ (c : zS) => jSin c) h (fun j e hj hI => ?_)
  rw [Nat.zero_add]
  unfold k102_21
  split
  · exact hI
  · split
    · unfold jSin at hI ⊢
      obtain ⟨s1, s2, s3, s4⟩ := hI
      simp only [zup1, Nat.reduceEqDiff, reduceIte, upd_r]
      refine ⟨s1, s2, s3, fun i hi => ?_⟩
      split
      · exact jhash (s4 j hj) h5 h6 (s3 j hj)
      · exact s4 i hi
    · exact hI
/-- the end of a request -/
theorem jcon {n : Nat} {S : zS} (hn : n < 1000) (h : jJ n S) {a b d : Int32} (c : Int32) (hu : jUm a.toNatClampNeg S) (h0 : 0 ≤ a.toInt) (hb : zx 216 b) (hd0 : -13 ≤ d.toInt) (hd1 : d.toInt ≤ 9999) (hr : d = -2 ∨ d = -3 → jUse S) : jI n (G197 a b c d S) ∧ (∀ i, G197 a b c d S 40 i = 0 → S 40 i = 0) ∧ (∀ i, G197 a b c d S 46 i = 0 → S 46 i = 0 ∧ G197 a b c d S 44 i = S 44 i) := by
  unfold G197
  by_cases c0 : d = -2
  · rw [if_pos c0]; exact ⟨jJ_I h (hr (Or.inl c0)), fun _ e => e, fun _ e => ⟨e, rfl⟩⟩
  · rw [if_neg c0]
    by_cases c1 : d = -3
    · rw [if_pos c1]; exact ⟨jJ_I h (hr (Or.inr c1)), fun _ e => e, fun _ e => ⟨e, rfl⟩⟩
    · rw [if_neg c1]
      have hn0 := zk_nat h0
      have ht := rTok_0 (jJ_Tok h)
      have hnt := zk_nat ht.1
      by_cases c2 : ((¬ (a < 0)) ∧ (¬ ((S 5 0) ≤ a)))
      · rw [if_pos c2, if_pos c2]
        have c2' := c2
        rw [zk_lt, zk_le, jk_0] at c2'
        have hp := p_G102 a b c d S
        have hJ : jJ n (G102 a b c d S) := (by unfold jJ; exact ⟨(jSea_k rfl hp (jJ_Sea h)), (jKey_k rfl hp (jJ_Key h)), (jEng_k rfl hp (jJ_Eng h)), (jPpl_k rfl hp (jJ_Ppl h)), (jTok_k rfl hp (jJ_Tok h)), (jTim_k rfl hp (jJ_Tim h)), (jLea_k rfl hp (jJ_Lea h)), (jEnd_k rfl hp (jJ_End h)), (jLT_k rfl hp (jJ_LT h)), (jCnt_k rfl hp (jJ_Cnt h)), (jSto_k rfl hp (jJ_Sto h)), (jFar_k rfl hp (jJ_Far h)), (jWra_k rfl hp (jJ_Wra h)), (jCas_k rfl hp (jJ_Cas h)), (jCer_k rfl hp (jJ_Cer h)), (jtell (jJ_Sin h) c (by unfold zn at *; omega) hb hd0 hd1)⟩)
        have hU : jUm a.toNatClampNeg (G102 a b c d S) := jUm_k (congrFun (hp.1 5 rfl) 0) (hp.1 40 rfl) (hp.1 37 rfl) hu
        by_cases c3 : G102 a b c d S 37 a.toNatClampNeg = 0
        · rw [if_pos c3]
          obtain ⟨w1, w2, w3, w4, w5, w6⟩ := jdieJ hn hJ h0 (by rw [hp.1 5 rfl]; omega)
          refine ⟨jJ_I w1 (w2 hU), fun i e => ?_, fun i e => ?_⟩
          · have := w4 i e; rwa [hp.1 40 rfl] at this
          · have := w5 i e; have h9 := w6 i e; rw [hp.1 46 rfl] at this; rw [hp.1 44 rfl] at h9; exact ⟨this, h9⟩
        · rw [if_neg c3]
          refine ⟨jJ_I hJ ?_, fun i e => by rwa [hp.1 40 rfl] at e, fun i e => by rw [hp.1 46 rfl] at e; exact ⟨e, by rw [hp.1 44 rfl]⟩⟩
          unfold jUse
          unfold jUm at hU
          intro j hj e
          by_cases hja : j = a.toNatClampNeg
          · subst hja; exact c3
          · exact hU j hj hja e
      · rw [if_neg c2, if_neg c2]
        have c2' := c2
        rw [zk_lt, zk_le, jk_0] at c2'
        have hp := p_G102 0 b c d S
        have hJ : jJ n (G102 0 b c d S) := (by unfold jJ; exact ⟨(jSea_k rfl hp (jJ_Sea h)), (jKey_k rfl hp (jJ_Key h)), (jEng_k rfl hp (jJ_Eng h)), (jPpl_k rfl hp (jJ_Ppl h)), (jTok_k rfl hp (jJ_Tok h)), (jTim_k rfl hp (jJ_Tim h)), (jLea_k rfl hp (jJ_Lea h)), (jEnd_k rfl hp (jJ_End h)), (jLT_k rfl hp (jJ_LT h)), (jCnt_k rfl hp (jJ_Cnt h)), (jSto_k rfl hp (jJ_Sto h)), (jFar_k rfl hp (jJ_Far h)), (jWra_k rfl hp (jJ_Wra h)), (jCas_k rfl hp (jJ_Cas h)), (jCer_k rfl hp (jJ_Cer h)), (jtell (jJ_Sin h) c (by unfold zn; decide) hb hd0 hd1)⟩)
        refine ⟨jJ_I hJ ?_, fun i e => by rwa [hp.1 40 rfl] at e, fun i e => by rw [hp.1 46 rfl] at e; exact ⟨e, by rw [hp.1 44 rfl]⟩⟩
        unfold jUse
        unfold jUm at hu
        rw [hp.1 5 rfl, hp.1 40 rfl, hp.1 37 rfl]
        exact fun j hj e => hu j hj (by omega) e
/-- a request as a whole: its middle is given -/
theorem jreq {n : Nat} {S : zS} (hn : n + 1 < 1000) (h : jI n S) {a b p q : Int32} {F : Int32} {G : zS} (h0 : 0 ≤ a.toInt) (hp : zx 216 p) (hG : jJ n (G196 a b p q S) → ¬ S 1 6 = 0 → a.toInt < (S 5 0).toInt → S 40 a.toNatClampNeg = 0 → jJ (n + 1) G ∧ G 5 0 = S 5 0 ∧ G 40 = S 40 ∧ G 37 = G196 a b p q S 37 ∧ -13 ≤ F.toInt ∧ F.toInt ≤ 9999 ∧ ¬ F = -2 ∧ ¬ F = -3) : jI (n + 1) (G197 a p q (if F196 a b p q S = 0 then F else F196 a b p q S) (if F196 a b p q S = 0 then G else G196 a b p q S)) ∧ (∀ i, G197 a p q (if F196 a b p q S = 0 then F else F196 a b p q S) (if F196 a b p q S = 0 then G else G196 a b p q S) 40 i = 0 → S 40 i = 0) ∧ (∀ i, G197 a p q (if F196 a b p q S = 0 then F else F196 a b p q S) (if F196 a b p q S = 0 then G else G196 a b p q S) 46 i = 0 → (if F196 a b p q S = 0 then G else G196 a b p q S) 46 i = 0 ∧ G197 a p q (if F196 a b p q S = 0 then F else F196 a b p q S) (if F196 a b p q S = 0 then G else G196 a b p q S) 44 i = (if F196 a b p q S = 0 then G else G196 a b p q S) 44 i) := by
  obtain ⟨k, hJ, hU, hc⟩ := jadm h a b p q
  by_cases c0 : F196 a b p q S = 0
  · simp only [if_pos c0]
    rcases hc with ⟨_, e, _⟩ | ⟨_, e, _⟩ | ⟨e1, _, e2, e3, e4⟩
    · rw [e] at c0; exact absurd c0 (by decide)
    · rcases e with e | e <;> (rw [e] at c0; exact absurd c0 (by decide))
    · obtain ⟨g1, g2, g3, g4, g5, g6, g7, g8⟩ := hG hJ e1 e3 e4
      obtain ⟨w1, w2, w3⟩ := jcon hn g1 q (jUm_k (g2.trans (congrFun (k.1 5 rfl) 0).symm) (g3.trans (k.1 40 rfl).symm) g4 hU) h0 hp g5 g6 (fun e => e.elim (fun e => absurd e g7) (fun e => absurd e g8))
      exact ⟨w1, fun i e => by have := w2 i e; rwa [g3] at this, w3⟩
  · simp only [if_neg c0]
    have hr : -13 ≤ (F196 a b p q S).toInt ∧ (F196 a b p q S).toInt ≤ 9999 ∧ (F196 a b p q S = -2 ∨ F196 a b p q S = -3 → jUse (G196 a b p q S)) := by
      rcases hc with ⟨_, e, e2⟩ | ⟨_, e, e2⟩ | ⟨_, e, _⟩
      · rw [e, e2]; exact ⟨by decide, by decide, fun _ => jI_Use h⟩
      · rw [e2]; rcases e with e | e <;> (rw [e]; exact ⟨by decide, by decide, fun _ => jI_Use h⟩)
      · rcases e with e | e | e
        · rw [e]; exact ⟨by decide, by decide, fun e => e.elim (fun e => absurd e (by decide)) (fun e => absurd e (by decide))⟩
        · rw [e]; exact ⟨by decide, by decide, fun e => e.elim (fun e => absurd e (by decide)) (fun e => absurd e (by decide))⟩
        · exact absurd e c0
    obtain ⟨w1, w2, w3⟩ := jcon hn (jJ_u (Nat.le_succ n) hJ) q hU h0 hp hr.1 hr.2.1 hr.2.2
    exact ⟨w1, fun i e => by have := w2 i e; rwa [k.1 40 rfl] at this, w3⟩
