/-! the middles of the requests, further -/
theorem jk_6 : (6 : Int32).toInt = 6 := rfl
theorem jk_36 : (36 : Int32).toInt = 36 := rfl
theorem jk_50 : (50 : Int32).toInt = 50 := rfl
theorem jk_100 : (100 : Int32).toInt = 100 := rfl
theorem jk_40 : (40 : Int32).toInt = 40 := rfl
theorem jmin {x y : Int32} : (zmin x y).toInt = if y.toInt < x.toInt then y.toInt else x.toInt := by
  unfold zmin
  by_cases h : y < x
  · rw [if_pos h, if_pos (zk_lt.mp h)]
  · rw [if_neg h, if_neg (fun e => h (zk_lt.mpr e))]
theorem jm204 {n : Nat} {S : zS} (hn : n < 500) (h : jJ n S) (a b c : Int32) (ha : zx 216 a) (hc : zn 2 c) : jJ (n + 1) (G204 a b c S) ∧ jAns (F204 a b c S) := by
  have hu := jJ_u (Nat.le_succ n) h
  generalize hv : (if (b = 0) then ((S 51 a.toNatClampNeg) : Int32) else b) = v
  have hp := p_G19 a v c 0 S
  have hF := (jlog hn (jJ_Far h) a v c 0 ha).resolve_right (fun e => e rfl)
  have h54 := fun q => (rSto_3 (jJ_Sto h)) q
  have hL : jJ (n + 1) (G19 a v c 0 S) := (by unfold jJ; exact ⟨(jSea_k rfl hp (jJ_Sea h)), (jKey_u (Nat.le_succ n) (jKey_k rfl hp (jJ_Key h))), (jEng_k rfl hp (jJ_Eng h)), (jPpl_k rfl hp (jJ_Ppl h)), (jTok_k rfl hp (jJ_Tok h)), (jTim_k rfl hp (jJ_Tim h)), (jLea_k rfl hp (jJ_Lea h)), (jEnd_k rfl hp (jJ_End h)), (jLT_k rfl hp (jJ_LT h)), (jCnt_u (Nat.le_succ n) (jCnt_k rfl hp (jJ_Cnt h))), (jSto_u (Nat.le_succ n) (jSto_k rfl hp (jJ_Sto h))), hF, (jWra_k rfl hp (jJ_Wra h)), (jCas_k rfl hp (jJ_Cas h)), (jCer_k rfl hp (jJ_Cer h)), (jSin_k rfl hp (jJ_Sin h))⟩)
  have hS2 := jJ_Sto hL
  have hst : ∀ q : Nat, ¬ S 54 q = 2 → jSto (n + 1) (if (c = 2) then (z_up (z_up (G19 a v c 0 S) 54 q c) 52 q (-1)) else (z_up (G19 a v c 0 S) 54 q c)) ∧ zkp [54, 52] [] (G19 a v c 0 S) (if (c = 2) then (z_up (z_up (G19 a v c 0 S) 54 q c) 52 q (-1)) else (z_up (G19 a v c 0 S) 54 q c)) := by
    intro q hq
    unfold jSto at hS2 ⊢
    obtain ⟨s1, s2, s3, s4⟩ := hS2
    by_cases c2 : c = 2
    · simp only [if_pos c2]
      refine ⟨?_, zkp_up (zkp_up zkp_S rfl rfl) rfl rfl⟩
      simp only [zup1, Nat.reduceEqDiff, reduceIte, upd_r]
      refine ⟨s1, fun i hi => ?_, s3, fun i => ?_⟩
      · by_cases hiq : i = q
        · rw [if_pos hiq] at hi; exact absurd c2 hi
        · rw [if_neg hiq]; rw [if_neg hiq] at hi; exact s2 i hi
      · split
        · exact hc
        · exact s4 i
    · simp only [if_neg c2]
      refine ⟨?_, zkp_up zkp_S rfl rfl⟩
      simp only [zup1, Nat.reduceEqDiff, reduceIte, upd_r]
      refine ⟨s1, fun i hi => ?_, s3, fun i => ?_⟩
      · by_cases hiq : i = q
        · subst hiq; exact s2 i (by rw [hp.1 54 rfl]; exact hq)
        · rw [if_neg hiq] at hi; exact s2 i hi
      · split
        · exact hc
        · exact s4 i
  unfold G204 F204
  rw [hv]
  generalize F107 a b S = q
  by_cases c0 : S 16 (a / 36).toNatClampNeg = 0
  · rw [if_pos c0, if_pos c0]
    by_cases c1 : q = -1
    · rw [if_pos c1, if_pos c1]; exact ⟨hu, jAns_c (by decide)⟩
    · rw [if_neg c1, if_neg c1]
      by_cases c2 : S 54 q.toNatClampNeg = 2
      · rw [if_pos c2, if_pos c2]; exact ⟨hu, jAns_c (by decide)⟩
      · rw [if_neg c2, if_neg c2]
        obtain ⟨w1, w2⟩ := hst q.toNatClampNeg c2
        generalize (if (c = 2) then (z_up (z_up (G19 a v c 0 S) 54 q.toNatClampNeg c) 52 q.toNatClampNeg (-1)) else (z_up (G19 a v c 0 S) 54 q.toNatClampNeg c)) = R at w1 w2 ⊢
        refine ⟨(by unfold jJ; exact ⟨(jSea_k rfl w2 (jJ_Sea hL)), (jKey_k rfl w2 (jJ_Key hL)), (jEng_k rfl w2 (jJ_Eng hL)), (jPpl_k rfl w2 (jJ_Ppl hL)), (jTok_k rfl w2 (jJ_Tok hL)), (jTim_k rfl w2 (jJ_Tim hL)), (jLea_k rfl w2 (jJ_Lea hL)), (jEnd_k rfl w2 (jJ_End hL)), (jLT_k rfl w2 (jJ_LT hL)), (jCnt_k rfl w2 (jJ_Cnt hL)), w1, (jFar_k rfl w2 (jJ_Far hL)), (jWra_k rfl w2 (jJ_Wra hL)), (jCas_k rfl w2 (jJ_Cas hL)), (jCer_k rfl w2 (jJ_Cer hL)), (jSin_k rfl w2 (jJ_Sin hL))⟩), ?_⟩
        rw [hp.1 54 rfl]
        exact jAns_n (zn_mono (h54 _) (by decide))
  · rw [if_neg c0, if_neg c0]; exact ⟨hu, jAns_c (by decide)⟩
theorem jN_add {sy st : Nat → Int32} {s m : Nat} {v : Int32} : jN (upd sy m v) (upd st m 0) s (m + 1) = jN sy st s m + (if v = Int32.ofNat s then 1 else 0) := by
  show jN (upd sy m v) (upd st m 0) s m + (if (upd sy m v) m = Int32.ofNat s ∧ ¬ (upd st m 0) m = 2 then 1 else 0) = _
  rw [jN_cg (sy := sy) (st := st) (fun i hi => by rw [upd_r, if_neg (by omega), upd_r, if_neg (by omega)]; exact ⟨rfl, Iff.rfl⟩)]
  rw [upd_r, if_pos rfl, upd_r, if_pos rfl]
  congr 1
  by_cases hv : v = Int32.ofNat s
  · rw [if_pos ⟨hv, by decide⟩, if_pos hv]
  · rw [if_neg (fun e => hv e.1), if_neg hv]
theorem jdiv36 {b : Int32} (hb : zx 216 b) : zx 6 (b / 36) := by
  rw [zx_iff] at *
  have := zdiv_ti (x := b) (y := 36) (by decide) hb.1
  rw [jk_36] at this
  omega
theorem jm205 {n : Nat} {S : zS} (hn : n < 500) (h : jJ n S) (a b c d : Int32) (ha : 0 ≤ a.toInt ∧ a.toInt < (S 5 0).toInt) (hal : S 40 a.toNatClampNeg = 0) (hb : zx 216 b) (hc : 1 ≤ c.toInt ∧ c.toInt ≤ 50) (hd : c.toInt ≤ d.toInt ∧ d.toInt ≤ 100) : jJ (n + 1) (G205 a b c d S) ∧ jAns (F205 a b c d S) ∧ G205 a b c d S 5 0 = S 5 0 ∧ G205 a b c d S 40 = S 40 ∧ G205 a b c d S 37 = S 37 ∧ (0 ≤ (F205 a b c d S).toInt → S 16 (b / 36).toNatClampNeg = 1 ∧ F205 a b c d S = S 6 0 ∧ G205 a b c d S 6 0 = (S 6 0) + 1 ∧ G205 a b c d S 46 (S 6 0).toNatClampNeg = 0 ∧ G205 a b c d S 41 (S 6 0).toNatClampNeg = a ∧ (G205 a b c d S 44 (S 6 0).toNatClampNeg).toInt ≤ (S 0 11).toInt + c.toInt) ∧ ((F205 a b c d S).toInt < 0 → G205 a b c d S 6 0 = S 6 0) := by
  have hu := jJ_u (Nat.le_succ n) h
  have hs := (rEng_1 (jJ_Eng h)) (b / 36).toNatClampNeg (by have := jdiv36 hb; rw [zx_iff] at this; have := zk_nat this.1; omega)
  have hT := jJ_Tok h
  have hna := zk_nat ha.1
  have ht40 := zn_cl (rTok_0 hT)
  have hnt := zk_nat (rTok_0 hT).1
  have hh := rKey_0 (jJ_Key h)
  obtain ⟨t1, t2⟩ := (jJ_Tim h) a.toNatClampNeg (by omega) hal
  have hL := jJ_Lea h
  have hL0 := rLea_0 hL
  have hnL := zk_nat hL0.1
  have hso := zk_of (zx_iff.mp hs).1
  have hsx := zx_iff.mp hs
  unfold G205 F205
  generalize S 17 (b / 36).toNatClampNeg = s at *
  have hns := zk_nat hsx.1
  by_cases c0 : S 16 (b / 36).toNatClampNeg = 1
  · rw [if_pos c0, if_pos c0]
    by_cases c1 : S 6 0 < 40
    · rw [if_neg (show ¬ ¬ S 6 0 < 40 from fun e => e c1), if_neg (show ¬ ¬ S 6 0 < 40 from fun e => e c1)]
      rw [zk_lt, jk_40] at c1
      have eL := jk_p _ hL0 (by decide)
      have hnL2 := zk_nat (x := (S 6 0) + 1) (by unfold zn at hL0; omega)
      have hCs := (jJ_Cnt h) s.toNatClampNeg (by omega)
      have hle := jN_le (S 43) (S 46) s.toNatClampNeg (S 6 0).toNatClampNeg
      have hcl := zn_cl hL0
      have h50 := hCs.1
      have h49 := hCs.2
      have e49 : ((S 49 s.toNatClampNeg) + 1).toInt = (S 49 s.toNatClampNeg).toInt + 1 := by unfold zn at h50; rw [zk_tadd (by rw [zk_1]; omega) (by rw [zk_1]; omega), zk_1]
      have e50 := jk_p _ h50 (by omega)
      by_cases c2 : S 48 s.toNatClampNeg = 1
      · -- it refuses
        have eG : G49 s S = S := by unfold G49; rw [if_pos c2]
        rw [if_neg (show ¬ ((¬ S 48 s.toNatClampNeg = 1) ∧ (¬ S 48 s.toNatClampNeg = 2)) from fun e => e.1 c2), if_neg (show ¬ ((¬ S 48 s.toNatClampNeg = 1) ∧ (¬ S 48 s.toNatClampNeg = 2)) from fun e => e.1 c2), eG]
        exact ⟨hu, jAns_c (by decide), rfl, rfl, rfl, fun e => absurd e (by decide), fun _ => rfl⟩
      · by_cases c3 : S 48 s.toNatClampNeg = 2
        · have eG : G49 s S = z_up (z_up S 49 s.toNatClampNeg ((S 49 s.toNatClampNeg) + 1)) 50 s.toNatClampNeg ((S 50 s.toNatClampNeg) + 1) := by unfold G49; rw [if_neg c2, if_pos c3]
          rw [if_neg (show ¬ ((¬ S 48 s.toNatClampNeg = 1) ∧ (¬ S 48 s.toNatClampNeg = 2)) from fun e => e.2 c3), if_neg (show ¬ ((¬ S 48 s.toNatClampNeg = 1) ∧ (¬ S 48 s.toNatClampNeg = 2)) from fun e => e.2 c3), eG]
          have hp : zkp [49, 50] [] S (z_up (z_up S 49 s.toNatClampNeg ((S 49 s.toNatClampNeg) + 1)) 50 s.toNatClampNeg ((S 50 s.toNatClampNeg) + 1)) := zkp_up (zkp_up zkp_S rfl rfl) rfl rfl
          have hC : jCnt (n + 1) (z_up (z_up S 49 s.toNatClampNeg ((S 49 s.toNatClampNeg) + 1)) 50 s.toNatClampNeg ((S 50 s.toNatClampNeg) + 1)) := by
            have hC0 := jJ_Cnt h
            unfold jCnt at hC0 ⊢
            simp only [zup1, Nat.reduceEqDiff, reduceIte, upd_r]
            intro i hi
            obtain ⟨q1, q2⟩ := hC0 i hi
            by_cases his : i = s.toNatClampNeg
            · subst his
              rw [if_pos rfl, if_pos rfl, e49, e50]
              exact ⟨by unfold zn at *; rw [e50]; omega, by omega⟩
            · rw [if_neg his, if_neg his]; exact ⟨zn_up q1, q2⟩
          exact ⟨(by unfold jJ; exact ⟨(jSea_k rfl hp (jJ_Sea h)), (jKey_u (Nat.le_succ n) (jKey_k rfl hp (jJ_Key h))), (jEng_k rfl hp (jJ_Eng h)), (jPpl_k rfl hp (jJ_Ppl h)), (jTok_k rfl hp (jJ_Tok h)), (jTim_k rfl hp (jJ_Tim h)), (jLea_k rfl hp (jJ_Lea h)), (jEnd_k rfl hp (jJ_End h)), (jLT_k rfl hp (jJ_LT h)), hC, (jSto_u (Nat.le_succ n) (jSto_k rfl hp (jJ_Sto h))), (jFar_u (Nat.le_succ n) (jFar_k rfl hp (jJ_Far h))), (jWra_k rfl hp (jJ_Wra h)), (jCas_k rfl hp (jJ_Cas h)), (jCer_k rfl hp (jJ_Cer h)), (jSin_k rfl hp (jJ_Sin h))⟩), jAns_c (by decide), congrFun (hp.1 5 rfl) 0, hp.1 40 rfl, hp.1 37 rfl, fun e => absurd e (by decide), fun _ => congrFun (hp.1 6 rfl) 0⟩
        · have eG : G49 s S = z_up S 49 s.toNatClampNeg ((S 49 s.toNatClampNeg) + 1) := by unfold G49; rw [if_neg c2, if_neg c3]
          rw [if_pos (show ((¬ S 48 s.toNatClampNeg = 1) ∧ (¬ S 48 s.toNatClampNeg = 2)) from ⟨c2, c3⟩), if_pos (show ((¬ S 48 s.toNatClampNeg = 1) ∧ (¬ S 48 s.toNatClampNeg = 2)) from ⟨c2, c3⟩), eG]
          have x6 : z_up S 49 s.toNatClampNeg ((S 49 s.toNatClampNeg) + 1) 6 0 = S 6 0 := zupci rfl
          have hp0 : zkp [49, 41, 42, 43, 46, 47, 6] [6000] S (G50 a b s (z_up S 49 s.toNatClampNeg ((S 49 s.toNatClampNeg) + 1))) := zkp_tr (zkp_up zkp_S rfl rfl) (p_G50 a b s (z_up S 49 s.toNatClampNeg ((S 49 s.toNatClampNeg) + 1))) rfl rfl
          rw [x6, hp0.1 0 rfl, hp0.1 34 rfl]
          have eV : ((S 0 11) + c).toInt = (S 0 11).toInt + c.toInt := by unfold zn at hh; rw [zk_tadd (by omega) (by omega)]
          have eW : ((S 0 11) + d).toInt = (S 0 11).toInt + d.toInt := by unfold zn at hh; rw [zk_tadd (by omega) (by omega)]
          have hV : (S 0 11).toInt < (zmin ((S 0 11) + c) (S 34 a.toNatClampNeg)).toInt ∧ (zmin ((S 0 11) + c) (S 34 a.toNatClampNeg)).toInt ≤ (S 0 11).toInt + c.toInt := by
            rw [jmin, eV]; split <;> omega
          generalize zmin ((S 0 11) + c) (S 34 a.toNatClampNeg) = V at hV ⊢
          generalize (S 0 11) + d = W at eW ⊢
          generalize hR : z_up (z_up (G50 a b s (z_up S 49 s.toNatClampNeg ((S 49 s.toNatClampNeg) + 1))) 44 (S 6 0).toNatClampNeg V) 45 (S 6 0).toNatClampNeg W = R
          have hp : zkp [49, 41, 42, 43, 46, 47, 6, 44, 45] [6000] S R := by rw [← hR]; exact zkp_up (zkp_up (zkp_tr zkp_S hp0 rfl rfl) rfl rfl) rfl rfl
          have r41 : R 41 = upd (S 41) (S 6 0).toNatClampNeg a := by rw [← hR]; simp only [G50, zup1, Nat.reduceEqDiff, reduceIte]
          have r43 : R 43 = upd (S 43) (S 6 0).toNatClampNeg s := by rw [← hR]; simp only [G50, zup1, Nat.reduceEqDiff, reduceIte]
          have r46 : R 46 = upd (S 46) (S 6 0).toNatClampNeg 0 := by rw [← hR]; simp only [G50, zup1, Nat.reduceEqDiff, reduceIte]
          have r44 : R 44 = upd (S 44) (S 6 0).toNatClampNeg V := by rw [← hR]; simp only [G50, zup1, Nat.reduceEqDiff, reduceIte]
          have r45 : R 45 = upd (S 45) (S 6 0).toNatClampNeg W := by rw [← hR]; simp only [G50, zup1, Nat.reduceEqDiff, reduceIte]
          have r49 : R 49 = upd (S 49) s.toNatClampNeg ((S 49 s.toNatClampNeg) + 1) := by rw [← hR]; simp only [G50, zup1, Nat.reduceEqDiff, reduceIte]
          have r6 : R 6 0 = (S 6 0) + 1 := by rw [← hR]; simp only [G50, zup1, Nat.reduceEqDiff, reduceIte, upd_r]
          have kL : jLea R := by
            unfold jLea at hL ⊢
            obtain ⟨l1, l2, l3, l4, l5⟩ := hL
            rw [r6, r41, r43, r46, hp.1 48 rfl]
            refine ⟨by unfold zn at *; omega, fun j hj => ?_, fun j hj => ?_, fun j => ?_, l5⟩
            · rw [upd_r]; split
              · rw [zx_iff]; omega
              · exact l2 j hj
            · rw [upd_r]; split
              · exact hs
              · exact l3 j hj
            · rw [upd_r]; split
              · unfold zn; decide
              · exact l4 j
          have kE : jEnd R := by
            have hE := jJ_End h
            unfold jEnd at hE ⊢
            rw [r6, r44, r45, r46, hp.1 0 rfl]
            intro j hj
            rw [upd_r, upd_r, upd_r]
            by_cases hjm : j = (S 6 0).toNatClampNeg
            · rw [if_pos hjm, if_pos hjm, if_pos hjm]; exact ⟨fun _ => ⟨hV.1, by omega⟩, fun e => absurd rfl e⟩
            · rw [if_neg hjm, if_neg hjm, if_neg hjm]; exact hE j (by omega)
          have kT : jLT R := by
            have hE := jJ_LT h
            unfold jLT at hE ⊢
            rw [r6, r41, r46, hp.1 5 rfl, hp.1 40 rfl]
            intro j hj e
            rw [upd_r] at e ⊢
            by_cases hjm : j = (S 6 0).toNatClampNeg
            · rw [if_pos hjm]; exact ⟨hal, ha.2⟩
            · rw [if_neg hjm] at e ⊢; exact hE j (by omega) e
          have kC : jCnt (n + 1) R := by
            have hC0 := jJ_Cnt h
            unfold jCnt at hC0 ⊢
            rw [r6, r43, r46, r49, hp.1 50 rfl]
            have em : ((S 6 0) + 1).toNatClampNeg = (S 6 0).toNatClampNeg + 1 := by omega
            rw [em]
            intro i hi
            rw [jN_add]
            obtain ⟨q1, q2⟩ := hC0 i hi
            refine ⟨zn_up q1, ?_⟩
            rw [upd_r]
            by_cases his : i = s.toNatClampNeg
            · subst his
              rw [if_pos rfl, if_pos hso.symm, e49]; omega
            · rw [if_neg his, if_neg (fun e => his (by rw [e, zk_ix i (by omega)]))]; omega
          refine ⟨(by unfold jJ; exact ⟨(jSea_k rfl hp (jJ_Sea h)), (jKey_u (Nat.le_succ n) (jKey_k rfl hp (jJ_Key h))), (jEng_k rfl hp (jJ_Eng h)), (jPpl_k rfl hp (jJ_Ppl h)), (jTok_k rfl hp (jJ_Tok h)), (jTim_k rfl hp (jJ_Tim h)), kL, kE, kT, kC, (jSto_u (Nat.le_succ n) (jSto_k rfl hp (jJ_Sto h))), (jFar_u (Nat.le_succ n) (jFar_k rfl hp (jJ_Far h))), (jWra_k rfl hp (jJ_Wra h)), (jCas_k rfl hp (jJ_Cas h)), (jCer_k rfl hp (jJ_Cer h)), (jSin_k rfl hp (jJ_Sin h))⟩), jAns_n (zn_mono hL0 (by decide)), congrFun (hp.1 5 rfl) 0, hp.1 40 rfl, hp.1 37 rfl, fun _ => ⟨c0, rfl, r6, ?_, ?_, ?_⟩, fun e => ?_⟩
          · rw [r46, upd_r, if_pos rfl]
          · rw [r41, upd_r, if_pos rfl]
          · rw [r44, upd_r, if_pos rfl]; exact hV.2
          · have := hL0.1; omega
    · rw [if_pos (show ¬ S 6 0 < 40 from c1), if_pos (show ¬ S 6 0 < 40 from c1)]
      exact ⟨hu, jAns_c (by decide), rfl, rfl, rfl, fun e => absurd e (by decide), fun _ => rfl⟩
  · rw [if_neg c0, if_neg c0]
    exact ⟨hu, jAns_c (by decide), rfl, rfl, rfl, fun e => absurd e (by decide), fun _ => rfl⟩
