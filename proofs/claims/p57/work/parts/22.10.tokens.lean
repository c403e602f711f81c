/-! the calls of tokens and leases -/
theorem jk_24 : (24 : Int32).toInt = 24 := rfl
theorem jk_72 : (72 : Int32).toInt = 72 := rfl
/-- a token more -/
theorem jnew {n : Nat} {S R : zS} {k p E W H U O : Int32} (h : jI n S) (hp : zkp [30, 31, 32, 33, 34, 35, 36, 37, 38, 39, 5] [5000] S R) (r5 : R 5 0 = (S 5 0) + 1) (r31 : R 31 = upd (S 31) (S 5 0).toNatClampNeg k) (r32 : R 32 = upd (S 32) (S 5 0).toNatClampNeg p) (r34 : R 34 = upd (S 34) (S 5 0).toNatClampNeg E) (r35 : R 35 = upd (S 35) (S 5 0).toNatClampNeg W) (r36 : R 36 = upd (S 36) (S 5 0).toNatClampNeg H) (r37 : R 37 = upd (S 37) (S 5 0).toNatClampNeg U) (r39 : R 39 = upd (S 39) (S 5 0).toNatClampNeg O) (hm : (S 5 0).toInt < 40) (hpp : -1 ≤ p.toInt ∧ p.toInt ≤ 7) (hE : (S 0 11).toInt < E.toInt) (hW : E.toInt ≤ W.toInt) (hH : k = 2 → 1 ≤ H.toInt ∧ H.toInt ≤ 100) (hU : -1 ≤ U.toInt ∧ U.toInt ≤ 20) (hU0 : ¬ U = 0) (hO : zo O) : jI n R ∧ R 40 (S 5 0).toNatClampNeg = 0 ∧ R 37 (S 5 0).toNatClampNeg = U ∧ R 40 = S 40 := by
  have h0 := rTok_0 (jI_Tok h)
  have e := jk_p _ h0 (by decide)
  have hn1 := zk_nat h0.1
  have hn2 := zk_nat (x := (S 5 0) + 1) (by unfold zn at h0; omega)
  have em : ((S 5 0) + 1).toNatClampNeg = (S 5 0).toNatClampNeg + 1 := by omega
  have r40 : R 40 = S 40 := hp.1 40 rfl
  have kT : jTok R := by
    have hT := jI_Tok h
    unfold jTok at hT ⊢
    obtain ⟨t1, t2, t3, t4, t5, t6, t7⟩ := hT
    rw [r5, r31, r32, r36, r37, r39, r40, em]
    refine ⟨by unfold zn at *; omega, fun j => ?_, fun j => ?_, t4, fun j hj => t5 j (by omega), fun j => ?_, fun j hj e2 => ?_⟩
    · rw [upd_r]; split
      · exact hpp
      · exact t2 j
    · rw [upd_r]; split
      · exact hO
      · exact t3 j
    · rw [upd_r]; split
      · exact hU
      · exact t6 j
    · rw [upd_r] at e2 ⊢
      by_cases hjm : j = (S 5 0).toNatClampNeg
      · rw [if_pos hjm] at e2 ⊢; exact hH e2
      · rw [if_neg hjm] at e2 ⊢; exact t7 j (by omega) e2
  have kTi : jTim R := by
    have hT := jI_Tim h
    unfold jTim at hT ⊢
    rw [r5, r31, r34, r35, r40, em, hp.1 0 rfl]
    intro j hj e2
    rw [upd_r, upd_r, upd_r]
    by_cases hjm : j = (S 5 0).toNatClampNeg
    · rw [if_pos hjm, if_pos hjm, if_pos hjm]; exact ⟨hE, fun _ => hW⟩
    · rw [if_neg hjm, if_neg hjm, if_neg hjm]; exact hT j (by omega) e2
  have kU : jUse R := by
    have hT := jI_Use h
    unfold jUse at hT ⊢
    rw [r5, r37, r40, em]
    intro j hj e2
    rw [upd_r]
    by_cases hjm : j = (S 5 0).toNatClampNeg
    · rw [if_pos hjm]; exact hU0
    · rw [if_neg hjm]; exact hT j (by omega) e2
  have kL : jLT R := by
    have hT := jI_LT h
    unfold jLT at hT ⊢
    rw [r5, r40, hp.1 6 rfl, hp.1 46 rfl, hp.1 41 rfl, e]
    exact fun j hj e2 => ⟨(hT j hj e2).1, by have := (hT j hj e2).2; omega⟩
  have kC : jCas R := by
    have hT := jI_Cas h
    unfold jCas at hT ⊢
    rw [r5, hp.1 10 rfl, hp.1 66 rfl, hp.1 67 rfl, hp.1 70 rfl, hp.1 71 rfl]
    exact ⟨hT.1, hT.2.1, hT.2.2.1, hT.2.2.2.1, hT.2.2.2.2.1, fun e2 => absurd (congrArg Int32.toInt e2) (by rw [e, jk_0]; have := h0.1; omega)⟩
  exact ⟨(by unfold jI; exact ⟨(jSea_k rfl hp (jI_Sea h)), (jKey_k rfl hp (jI_Key h)), (jEng_k rfl hp (jI_Eng h)), (jPpl_k rfl hp (jI_Ppl h)), kT, kTi, kU, (jLea_k rfl hp (jI_Lea h)), (jEnd_k rfl hp (jI_End h)), kL, (jCnt_k rfl hp (jI_Cnt h)), (jSto_k rfl hp (jI_Sto h)), (jFar_k rfl hp (jI_Far h)), (jWra_k rfl hp (jI_Wra h)), kC, (jCer_k rfl hp (jI_Cer h)), (jSin_k rfl hp (jI_Sin h))⟩), by rw [r40]; exact (rTok_4 (jI_Tok h)) _ (Nat.le_refl _), by rw [r37, upd_r, if_pos rfl], r40⟩
theorem j40 {n : Nat} {S : zS} (h : jI n S) (hf : ¬ S 5 0 < 40) : S 5 0 = 40 := by
  have := (rTok_0 (jI_Tok h)).2
  rw [zk_lt, jk_40] at hf
  rw [zk_eq, jk_40]; omega
theorem jq151 {n : Nat} {S : zS} (hn : n < 1000) (h : jI n S) {a b : Int32} (ha : 0 ≤ a.toInt ∧ a.toInt < 3) (hb : 0 ≤ b.toInt ∧ b.toInt < 6) : jI n (B151 a b S) ∧ ((S 1 6 = 0 ∧ A151 a b S = -2 ∧ B151 a b S = S) ∨ (¬ S 1 6 = 0 ∧ A151 a b S = -6 ∧ B151 a b S = S) ∨ (¬ S 1 6 = 0 ∧ A151 a b S = -11 ∧ S 5 0 = 40 ∧ B151 a b S = S) ∨ (¬ S 1 6 = 0 ∧ A151 a b S = S 5 0 ∧ B151 a b S 5 0 = (S 5 0) + 1 ∧ B151 a b S 40 (S 5 0).toNatClampNeg = 0 ∧ B151 a b S 37 (S 5 0).toNatClampNeg = -1)) := by
  unfold A151 B151
  by_cases c0 : S 1 6 = 0
  · rw [if_pos c0, if_pos c0]; exact ⟨h, Or.inl ⟨c0, rfl, rfl⟩⟩
  · rw [if_neg c0, if_neg c0]
    by_cases c1 : S 24 ((a * 6) + b).toNatClampNeg = -1
    · rw [if_pos c1, if_pos c1]; exact ⟨h, Or.inr (Or.inl ⟨c0, rfl, rfl⟩)⟩
    · rw [if_neg c1, if_neg c1]
      by_cases c2 : S 5 0 < 40
      · rw [if_neg (show ¬ ¬ S 5 0 < 40 from fun e => e c2), if_neg (show ¬ ¬ S 5 0 < 40 from fun e => e c2)]
        have e6 : (a * 6).toInt = a.toInt * 6 := by rw [zk_tmul (by rw [jk_6]; omega) (by rw [jk_6]; omega), jk_6]
        have e7 : ((a * 6) + b).toInt = a.toInt * 6 + b.toInt := by rw [zk_tadd (by omega) (by omega), e6]
        have hi := zk_nat (x := (a * 6) + b) (by omega)
        have hpp := (rPpl_0 (jI_Ppl h)) ((a * 6) + b).toNatClampNeg (by omega)
        have hh := rKey_0 (jI_Key h)
        have eE : ((S 0 11) + 24).toInt = (S 0 11).toInt + 24 := by unfold zn at hh; rw [zk_tadd (by rw [jk_24]; omega) (by rw [jk_24]; omega), jk_24]
        have eW : ((S 0 11) + 72).toInt = (S 0 11).toInt + 72 := by unfold zn at hh; rw [zk_tadd (by rw [jk_72]; omega) (by rw [jk_72]; omega), jk_72]
        generalize S 24 ((a * 6) + b).toNatClampNeg = p at *
        have kg := p_G122 (-1) 0 p (S 25 a.toNatClampNeg) S
        rw [kg.1 0 rfl]
        generalize hR : z_up (z_up (z_up (z_up (z_up (z_up (G122 (-1) 0 p (S 25 a.toNatClampNeg) S) 34 (S 5 0).toNatClampNeg ((S 0 11) + 24)) 35 (S 5 0).toNatClampNeg ((S 0 11) + 72)) 36 (S 5 0).toNatClampNeg 24) 37 (S 5 0).toNatClampNeg (-1)) 38 (S 5 0).toNatClampNeg 15) 39 (S 5 0).toNatClampNeg 0 = R
        have hp : zkp [30, 31, 32, 33, 34, 35, 36, 37, 38, 39, 5] [5000] S R := by rw [← hR]; exact zkp_up (zkp_up (zkp_up (zkp_up (zkp_up (zkp_up (zkp_tr zkp_S kg rfl rfl) rfl rfl) rfl rfl) rfl rfl) rfl rfl) rfl rfl) rfl rfl
        have r5 : R 5 0 = (S 5 0) + 1 := by rw [← hR]; simp only [G122, zup1, Nat.reduceEqDiff, reduceIte, upd_r]
        obtain ⟨w1, w2, w3, _⟩ := jnew (k := 0) (p := p) (E := (S 0 11) + 24) (W := (S 0 11) + 72) (H := 24) (U := -1) (O := 0) h hp r5 (by rw [← hR]; simp only [G122, zup1, Nat.reduceEqDiff, reduceIte]) (by rw [← hR]; simp only [G122, zup1, Nat.reduceEqDiff, reduceIte]) (by rw [← hR]; simp only [G122, zup1, Nat.reduceEqDiff, reduceIte]) (by rw [← hR]; simp only [G122, zup1, Nat.reduceEqDiff, reduceIte]) (by rw [← hR]; simp only [G122, zup1, Nat.reduceEqDiff, reduceIte]) (by rw [← hR]; simp only [G122, zup1, Nat.reduceEqDiff, reduceIte]) (by rw [← hR]; simp only [G122, zup1, Nat.reduceEqDiff, reduceIte]) (by rw [zk_lt, jk_40] at c2; exact c2) hpp (by omega) (by omega) (fun e => absurd e (by decide)) (by decide) (by decide) (Or.inl rfl)
        exact ⟨w1, Or.inr (Or.inr (Or.inr ⟨c0, rfl, r5, w2, w3⟩))⟩
      · rw [if_pos (show ¬ S 5 0 < 40 from c2), if_pos (show ¬ S 5 0 < 40 from c2)]
        exact ⟨h, Or.inr (Or.inr (Or.inl ⟨c0, rfl, j40 h c2, rfl⟩))⟩
/-- what a child's maker says -/
theorem jF199 {n : Nat} {S : zS} (h : jI n S) (a c : Int32) : (F199 a c S = -2 ∧ S 1 6 = 0) ∨ (F199 a c S = -4 ∧ ¬ S 1 6 = 0 ∧ ¬ a = -1) ∨ (F199 a c S = -6 ∧ ¬ S 1 6 = 0 ∧ ¬ a = -1) ∨ (F199 a c S = -11 ∧ ¬ S 1 6 = 0 ∧ S 5 0 = 40) ∨ (F199 a c S = 0 ∧ ¬ S 1 6 = 0 ∧ S 5 0 < 40 ∧ (a = -1 ∨ (0 ≤ a.toInt ∧ a.toInt < (S 5 0).toInt ∧ S 40 a.toNatClampNeg = 0))) := by
  unfold F199
  by_cases c0 : S 1 6 = 0
  · rw [if_pos c0]; exact Or.inl ⟨rfl, c0⟩
  · rw [if_neg c0]
    by_cases c1 : a = -1
    · rw [if_pos c1]
      by_cases c2 : S 5 0 < 40
      · rw [if_neg (show ¬ ¬ S 5 0 < 40 from fun e => e c2)]; exact Or.inr (Or.inr (Or.inr (Or.inr ⟨rfl, c0, c2, Or.inl c1⟩)))
      · rw [if_pos (show ¬ S 5 0 < 40 from c2)]; exact Or.inr (Or.inr (Or.inr (Or.inl ⟨rfl, c0, j40 h c2⟩)))
    · rw [if_neg c1]
      by_cases c3 : ((¬ (a < 0)) ∧ (¬ ((S 5 0) ≤ a)))
      · rw [if_pos c3]
        by_cases c4 : S 40 a.toNatClampNeg = 0
        · rw [if_pos c4]
          by_cases c5 : S 31 a.toNatClampNeg = 1
          · rw [if_pos c5]; exact Or.inr (Or.inl ⟨rfl, c0, c1⟩)
          · rw [if_neg c5]
            by_cases c6 : (c &&& ((S 33 a.toNatClampNeg) ^^^ (-1))) = 0
            · rw [if_pos c6]
              by_cases c2 : S 5 0 < 40
              · rw [if_neg (show ¬ ¬ S 5 0 < 40 from fun e => e c2)]
                rw [zk_lt, zk_le, jk_0] at c3
                exact Or.inr (Or.inr (Or.inr (Or.inr ⟨rfl, c0, c2, Or.inr ⟨by omega, by omega, c4⟩⟩)))
              · rw [if_pos (show ¬ S 5 0 < 40 from c2)]; exact Or.inr (Or.inr (Or.inr (Or.inl ⟨rfl, c0, j40 h c2⟩)))
            · rw [if_neg c6]; exact Or.inr (Or.inr (Or.inl ⟨rfl, c0, c1⟩))
        · rw [if_neg c4]; exact Or.inr (Or.inl ⟨rfl, c0, c1⟩)
      · rw [if_neg c3]; exact Or.inr (Or.inl ⟨rfl, c0, c1⟩)
theorem jq152 {n : Nat} {S : zS} (hn : n < 1000) (h : jI n S) {a b c d e f g o : Int32} (hb : zn 2 b) (hd : 1 ≤ d.toInt ∧ d.toInt ≤ 100) (he : d.toInt ≤ e.toInt ∧ e.toInt ≤ 200) (hf : f = -1 ∨ (1 ≤ f.toInt ∧ f.toInt ≤ 20)) (ho : zo o) : jI n (B152 a b c d e f g o S) ∧ ((A152 a b c d e f g o S = -2 ∧ S 1 6 = 0 ∧ B152 a b c d e f g o S = S) ∨ (A152 a b c d e f g o S = -4 ∧ ¬ S 1 6 = 0 ∧ ¬ a = -1 ∧ B152 a b c d e f g o S = S) ∨ (A152 a b c d e f g o S = -6 ∧ ¬ S 1 6 = 0 ∧ ¬ a = -1 ∧ B152 a b c d e f g o S = S) ∨ (A152 a b c d e f g o S = -11 ∧ ¬ S 1 6 = 0 ∧ S 5 0 = 40 ∧ B152 a b c d e f g o S = S) ∨ (¬ S 1 6 = 0 ∧ A152 a b c d e f g o S = S 5 0 ∧ B152 a b c d e f g o S 5 0 = (S 5 0) + 1 ∧ B152 a b c d e f g o S 40 (S 5 0).toNatClampNeg = 0 ∧ B152 a b c d e f g o S 37 (S 5 0).toNatClampNeg = f ∧ (a = -1 ∨ (0 ≤ a.toInt ∧ a.toInt < (S 5 0).toInt ∧ B152 a b c d e f g o S 40 a.toNatClampNeg = 0)))) := by
  unfold A152 B152
  rcases jF199 h a c with ⟨e1, e2⟩ | ⟨e1, e2, e3⟩ | ⟨e1, e2, e3⟩ | ⟨e1, e2, e3⟩ | ⟨e1, e2, e3, e4⟩
  · rw [if_neg (by rw [e1]; decide), if_neg (by rw [e1]; decide)]; exact ⟨h, Or.inl ⟨e1, e2, rfl⟩⟩
  · rw [if_neg (by rw [e1]; decide), if_neg (by rw [e1]; decide)]; exact ⟨h, Or.inr (Or.inl ⟨e1, e2, e3, rfl⟩)⟩
  · rw [if_neg (by rw [e1]; decide), if_neg (by rw [e1]; decide)]; exact ⟨h, Or.inr (Or.inr (Or.inl ⟨e1, e2, e3, rfl⟩))⟩
  · rw [if_neg (by rw [e1]; decide), if_neg (by rw [e1]; decide)]; exact ⟨h, Or.inr (Or.inr (Or.inr (Or.inl ⟨e1, e2, e3, rfl⟩)))⟩
  · rw [if_pos e1, if_pos e1]
    have hh := rKey_0 (jI_Key h)
    have eE : ((S 0 11) + d).toInt = (S 0 11).toInt + d.toInt := by unfold zn at hh; rw [zk_tadd (by omega) (by omega)]
    have eW : ((S 0 11) + e).toInt = (S 0 11).toInt + e.toInt := by unfold zn at hh; rw [zk_tadd (by omega) (by omega)]
    have hpp : -1 ≤ (if (a = (-1)) then ((-1) : Int32) else (S 32 a.toNatClampNeg)).toInt ∧ (if (a = (-1)) then ((-1) : Int32) else (S 32 a.toNatClampNeg)).toInt ≤ 7 := by
      split
      · decide
      · exact (rTok_1 (jI_Tok h)) _
    generalize (if (a = (-1)) then ((-1) : Int32) else (S 32 a.toNatClampNeg)) = p at *
    have kg := p_G122 a b p c S
    rw [kg.1 0 rfl]
    have hfa : -1 ≤ f.toInt ∧ f.toInt ≤ 20 := by
      rcases hf with e9 | e9
      · rw [e9]; decide
      · omega
    have hf0 : ¬ f = 0 := by
      rcases hf with e9 | e9
      · rw [e9]; decide
      · intro e8; rw [e8, jk_0] at e9; omega
    generalize hR : z_up (z_up (z_up (z_up (z_up (z_up (G122 a b p c S) 34 (S 5 0).toNatClampNeg ((S 0 11) + d)) 35 (S 5 0).toNatClampNeg ((S 0 11) + e)) 36 (S 5 0).toNatClampNeg d) 37 (S 5 0).toNatClampNeg f) 38 (S 5 0).toNatClampNeg g) 39 (S 5 0).toNatClampNeg o = R
    have hp : zkp [30, 31, 32, 33, 34, 35, 36, 37, 38, 39, 5] [5000] S R := by rw [← hR]; exact zkp_up (zkp_up (zkp_up (zkp_up (zkp_up (zkp_up (zkp_tr zkp_S kg rfl rfl) rfl rfl) rfl rfl) rfl rfl) rfl rfl) rfl rfl) rfl rfl
    have r5 : R 5 0 = (S 5 0) + 1 := by rw [← hR]; simp only [G122, zup1, Nat.reduceEqDiff, reduceIte, upd_r]
    obtain ⟨w1, w2, w3, w4⟩ := jnew (k := b) (p := p) (E := (S 0 11) + d) (W := (S 0 11) + e) (H := d) (U := f) (O := o) h hp r5 (by rw [← hR]; simp only [G122, zup1, Nat.reduceEqDiff, reduceIte]) (by rw [← hR]; simp only [G122, zup1, Nat.reduceEqDiff, reduceIte]) (by rw [← hR]; simp only [G122, zup1, Nat.reduceEqDiff, reduceIte]) (by rw [← hR]; simp only [G122, zup1, Nat.reduceEqDiff, reduceIte]) (by rw [← hR]; simp only [G122, zup1, Nat.reduceEqDiff, reduceIte]) (by rw [← hR]; simp only [G122, zup1, Nat.reduceEqDiff, reduceIte]) (by rw [← hR]; simp only [G122, zup1, Nat.reduceEqDiff, reduceIte]) (by rw [zk_lt, jk_40] at e3; exact e3) hpp (by omega) (by omega) (fun _ => ⟨hd.1, hd.2⟩) hfa hf0 ho
    exact ⟨w1, Or.inr (Or.inr (Or.inr (Or.inr ⟨e2, rfl, r5, w2, w3, e4.imp id (fun e9 => ⟨e9.1, e9.2.1, by rw [w4]; exact e9.2.2⟩)⟩)))⟩
theorem jq153 {n : Nat} {S : zS} (hn : n < 1000) (h : jI n S) {a b : Int32} (ha : 0 ≤ a.toInt ∧ a.toInt < (S 5 0).toInt) (hb : 1 ≤ b.toInt ∧ b.toInt ≤ 100) : jI n (B153 a b S) ∧ ((S 1 6 = 0 ∧ A153 a b S = -2) ∨ (¬ S 1 6 = 0 ∧ A153 a b S = -4) ∨ (¬ S 1 6 = 0 ∧ S 40 a.toNatClampNeg = 0 ∧ (S 0 11).toInt < (A153 a b S).toInt ∧ (A153 a b S).toInt ≤ (S 0 11).toInt + 100)) := by
  unfold A153 B153
  by_cases c0 : S 1 6 = 0
  · rw [if_pos c0, if_pos c0]; exact ⟨h, Or.inl ⟨c0, rfl⟩⟩
  · rw [if_neg c0, if_neg c0]
    by_cases c1 : S 40 a.toNatClampNeg = 0
    · rw [if_pos c1, if_pos c1]
      by_cases c2 : S 31 a.toNatClampNeg = 1
      · rw [if_pos c2, if_pos c2]; exact ⟨h, Or.inr (Or.inl ⟨c0, rfl⟩)⟩
      · rw [if_neg c2, if_neg c2]
        have hh := rKey_0 (jI_Key h)
        have hna := zk_nat ha.1
        have hnt := zk_nat (rTok_0 (jI_Tok h)).1
        have eb : ((S 0 11) + b).toInt = (S 0 11).toInt + b.toInt := by unfold zn at hh; rw [zk_tadd (by omega) (by omega)]
        obtain ⟨t1, t2⟩ := (jI_Tim h) a.toNatClampNeg (by omega) c1
        have hv : (S 0 11).toInt < (if ((S 31 a.toNatClampNeg) = 2) then (((S 0 11) + (S 36 a.toNatClampNeg)) : Int32) else (zmin ((S 0 11) + b) (S 35 a.toNatClampNeg))).toInt ∧ (if ((S 31 a.toNatClampNeg) = 2) then (((S 0 11) + (S 36 a.toNatClampNeg)) : Int32) else (zmin ((S 0 11) + b) (S 35 a.toNatClampNeg))).toInt ≤ (S 0 11).toInt + 100 ∧ (¬ S 31 a.toNatClampNeg = 2 → (if ((S 31 a.toNatClampNeg) = 2) then (((S 0 11) + (S 36 a.toNatClampNeg)) : Int32) else (zmin ((S 0 11) + b) (S 35 a.toNatClampNeg))).toInt ≤ (S 35 a.toNatClampNeg).toInt) := by
          by_cases c3 : S 31 a.toNatClampNeg = 2
          · rw [if_pos c3]
            have h36 := (rTok_6 (jI_Tok h)) a.toNatClampNeg (by omega) c3
            have e9 : ((S 0 11) + (S 36 a.toNatClampNeg)).toInt = (S 0 11).toInt + (S 36 a.toNatClampNeg).toInt := by unfold zn at hh; rw [zk_tadd (by omega) (by omega)]
            exact ⟨by omega, by omega, fun e => absurd c3 e⟩
          · rw [if_neg c3]
            have := t2 c3
            rw [jmin, eb]
            refine ⟨?_, ?_, fun _ => ?_⟩ <;> split <;> omega
        generalize (if ((S 31 a.toNatClampNeg) = 2) then (((S 0 11) + (S 36 a.toNatClampNeg)) : Int32) else (zmin ((S 0 11) + b) (S 35 a.toNatClampNeg))) = v at hv ⊢
        have hp : zkp [34] [] S (z_up S 34 a.toNatClampNeg v) := zkp_up zkp_S rfl rfl
        have kT : jTim (z_up S 34 a.toNatClampNeg v) := by
          have hT := jI_Tim h
          unfold jTim at hT ⊢
          simp only [zup1, Nat.reduceEqDiff, reduceIte, upd_r]
          intro j hj e
          by_cases hja : j = a.toNatClampNeg
          · rw [if_pos hja, hja]; exact ⟨hv.1, hv.2.2⟩
          · rw [if_neg hja]; exact hT j hj e
        exact ⟨(by unfold jI; exact ⟨(jSea_k rfl hp (jI_Sea h)), (jKey_k rfl hp (jI_Key h)), (jEng_k rfl hp (jI_Eng h)), (jPpl_k rfl hp (jI_Ppl h)), (jTok_k rfl hp (jI_Tok h)), kT, (jUse_k rfl hp (jI_Use h)), (jLea_k rfl hp (jI_Lea h)), (jEnd_k rfl hp (jI_End h)), (jLT_k rfl hp (jI_LT h)), (jCnt_k rfl hp (jI_Cnt h)), (jSto_k rfl hp (jI_Sto h)), (jFar_k rfl hp (jI_Far h)), (jWra_k rfl hp (jI_Wra h)), (jCas_k rfl hp (jI_Cas h)), (jCer_k rfl hp (jI_Cer h)), (jSin_k rfl hp (jI_Sin h))⟩), Or.inr (Or.inr ⟨c0, c1, hv.1, hv.2.1⟩)⟩
    · rw [if_neg c1, if_neg c1]; exact ⟨h, Or.inr (Or.inl ⟨c0, rfl⟩)⟩
theorem jq154 {n : Nat} {S : zS} (hn : n < 1000) (h : jI n S) {a : Int32} (ha : 0 ≤ a.toInt ∧ a.toInt < (S 5 0).toInt) : jI n (B154 a S) ∧ (if S 40 a.toNatClampNeg = 0 then 1 ≤ (A154 a S).toInt ∧ (A154 a S).toInt ≤ (S 5 0).toInt else A154 a S = 0) ∧ ¬ B154 a S 40 a.toNatClampNeg = 0 := by
  unfold B154
  obtain ⟨w1, w2, w3, w4, w5, _⟩ := jdieJ hn (jI_J h) ha.1 ha.2
  exact ⟨jJ_I w1 (w2 (jUm_of (jI_Use h))), (jD_h (rTok_0 (jI_Tok h)) ha.1 ha.2).2.2.2, w3⟩
theorem jq164 {n : Nat} {S : zS} (hn : n < 1000) (h : jI n S) {a b : Int32} (ha : 0 ≤ a.toInt ∧ a.toInt < (S 6 0).toInt) (hb : 1 ≤ b.toInt ∧ b.toInt ≤ 50) : jI n (B164 a b S) ∧ ((S 1 6 = 0 ∧ A164 a b S = -2) ∨ (¬ S 1 6 = 0 ∧ ¬ S 46 a.toNatClampNeg = 0 ∧ A164 a b S = -7) ∨ (¬ S 1 6 = 0 ∧ S 46 a.toNatClampNeg = 0 ∧ (S 0 11).toInt < (A164 a b S).toInt ∧ (A164 a b S).toInt ≤ (S 0 11).toInt + b.toInt ∧ B164 a b S 44 a.toNatClampNeg = A164 a b S)) := by
  unfold A164 B164
  by_cases c0 : S 1 6 = 0
  · rw [if_pos c0, if_pos c0]; exact ⟨h, Or.inl ⟨c0, rfl⟩⟩
  · rw [if_neg c0, if_neg c0]
    by_cases c1 : S 46 a.toNatClampNeg = 0
    · rw [if_pos c1, if_pos c1]
      have hh := rKey_0 (jI_Key h)
      have hna := zk_nat ha.1
      have hnl := zk_nat (rLea_0 (jI_Lea h)).1
      have eb : ((S 0 11) + b).toInt = (S 0 11).toInt + b.toInt := by unfold zn at hh; rw [zk_tadd (by omega) (by omega)]
      obtain ⟨t1, t2⟩ := ((jI_End h) a.toNatClampNeg (by omega)).1 c1
      obtain ⟨l1, l2⟩ := (jI_LT h) a.toNatClampNeg (by omega) c1
      have h41 := zx_iff.mp ((rLea_1 (jI_Lea h)) a.toNatClampNeg (by have := zn_cl (rLea_0 (jI_Lea h)); omega))
      have hn41 := zk_nat h41.1
      have hnt := zk_nat (rTok_0 (jI_Tok h)).1
      obtain ⟨u1, u2⟩ := (jI_Tim h) (S 41 a.toNatClampNeg).toNatClampNeg (by omega) l1
      have hv : (S 0 11).toInt < (zmin ((S 0 11) + b) (zmin (S 45 a.toNatClampNeg) (S 34 (S 41 a.toNatClampNeg).toNatClampNeg))).toInt ∧ (zmin ((S 0 11) + b) (zmin (S 45 a.toNatClampNeg) (S 34 (S 41 a.toNatClampNeg).toNatClampNeg))).toInt ≤ (S 0 11).toInt + b.toInt ∧ (zmin ((S 0 11) + b) (zmin (S 45 a.toNatClampNeg) (S 34 (S 41 a.toNatClampNeg).toNatClampNeg))).toInt ≤ (S 45 a.toNatClampNeg).toInt := by
        rw [jmin, jmin, eb]
        refine ⟨?_, ?_, ?_⟩ <;> (repeat' split) <;> omega
      generalize zmin ((S 0 11) + b) (zmin (S 45 a.toNatClampNeg) (S 34 (S 41 a.toNatClampNeg).toNatClampNeg)) = v at hv ⊢
      have hp : zkp [44] [] S (z_up S 44 a.toNatClampNeg v) := zkp_up zkp_S rfl rfl
      have kE : jEnd (z_up S 44 a.toNatClampNeg v) := by
        have hT := jI_End h
        unfold jEnd at hT ⊢
        simp only [zup1, Nat.reduceEqDiff, reduceIte, upd_r]
        intro j hj
        by_cases hja : j = a.toNatClampNeg
        · rw [if_pos hja, hja]; exact ⟨fun _ => ⟨hv.1, hv.2.2⟩, fun e => absurd c1 e⟩
        · rw [if_neg hja]; exact hT j hj
      exact ⟨(by unfold jI; exact ⟨(jSea_k rfl hp (jI_Sea h)), (jKey_k rfl hp (jI_Key h)), (jEng_k rfl hp (jI_Eng h)), (jPpl_k rfl hp (jI_Ppl h)), (jTok_k rfl hp (jI_Tok h)), (jTim_k rfl hp (jI_Tim h)), (jUse_k rfl hp (jI_Use h)), (jLea_k rfl hp (jI_Lea h)), kE, (jLT_k rfl hp (jI_LT h)), (jCnt_k rfl hp (jI_Cnt h)), (jSto_k rfl hp (jI_Sto h)), (jFar_k rfl hp (jI_Far h)), (jWra_k rfl hp (jI_Wra h)), (jCas_k rfl hp (jI_Cas h)), (jCer_k rfl hp (jI_Cer h)), (jSin_k rfl hp (jI_Sin h))⟩), Or.inr (Or.inr ⟨c0, c1, hv.1, hv.2.1, zup_s _ _ _ _⟩)⟩
    · rw [if_neg c1, if_neg c1]; exact ⟨h, Or.inr (Or.inl ⟨c0, c1, rfl⟩)⟩
/-- the walk that ends leases at paths, for all that holds -/
theorem jw53I {n : Nat} {S : zS} {x : Int32} (a b : Int32) (hn : n < 1000) (h : jI n S) (hx : S 0 11 = x) : jI n (K53_4_S a b x 0 0 S) := by
  have hp := p_K53_4_S a b x 0 0 S
  obtain ⟨w1, w2, w3, w4, w5⟩ := jw53 a b hn (jL_J (jI_J h)) hx
  have kLT : jLT (K53_4_S a b x 0 0 S) := jLT_mono (congrFun (hp.1 6 rfl) 0) (congrFun (hp.1 5 rfl) 0) (hp.1 40 rfl) (hp.1 41 rfl) w3 (jI_LT h)
  exact (by unfold jI; exact ⟨(jSea_k rfl hp (jI_Sea h)), (jKey_k rfl hp (jI_Key h)), (jEng_k rfl hp (jI_Eng h)), (jPpl_k rfl hp (jI_Ppl h)), (jTok_k rfl hp (jI_Tok h)), (jTim_k rfl hp (jI_Tim h)), (jUse_k rfl hp (jI_Use h)), w1.1, (jEnx_0.mp w1.2.1), kLT, w1.2.2, (jSto_k rfl hp (jI_Sto h)), (jFar_k rfl hp (jI_Far h)), (jWra_k rfl hp (jI_Wra h)), (jCas_k rfl hp (jI_Cas h)), (jCer_k rfl hp (jI_Cer h)), (jSin_k rfl hp (jI_Sin h))⟩)
theorem jq184 {n : Nat} {S : zS} (hn : n + 1 < 1000) (h : jI n S) {a : Int32} (ha : 1 ≤ a.toInt ∧ a.toInt ≤ 50) : jI (n + 1) (B184 a S) ∧ (A184 a S).toInt = (S 0 11).toInt + a.toInt ∧ B184 a S 0 11 = A184 a S := by
  have hh := rKey_0 (jI_Key h)
  unfold zn at hh
  obtain ⟨w1, w2⟩ := jpass hn (jI_u (Nat.le_succ n) h) (a := a) (by omega) (by omega)
  exact ⟨w1, w2, rfl⟩
theorem jq171 {n : Nat} {S : zS} (h : jI n S) {a : Int32} (ha : 0 ≤ a.toInt ∧ a.toInt < (S 10 0).toInt) : jI n (B171 a S) ∧ (S 1 6 = 0 → A171 a S = -2) ∧ (¬ S 1 6 = 0 → -7 ≤ (A171 a S).toInt) ∧ (¬ S 1 6 = 0 → ¬ S 65 a.toNatClampNeg = 0 → A171 a S = -7) ∧ (¬ S 1 6 = 0 → S 65 a.toNatClampNeg = 0 → S 64 a.toNatClampNeg = S 0 11 → A171 a S = S 63 a.toNatClampNeg ∧ B171 a S 65 a.toNatClampNeg = 1) := by
  have hW := jI_Wra h
  have hna := zk_nat ha.1
  have hnw := zk_nat (rWra_0 hW).1
  have h63 := (rWra_1 hW) a.toNatClampNeg (by omega)
  unfold A171 B171
  by_cases c0 : S 1 6 = 0
  · rw [if_pos c0, if_pos c0]; exact ⟨h, fun _ => rfl, fun e => absurd c0 e, fun e => absurd c0 e, fun e => absurd c0 e⟩
  · rw [if_neg c0, if_neg c0]
    by_cases c1 : S 65 a.toNatClampNeg = 0
    · rw [if_pos c1, if_pos c1]
      by_cases c2 : ((S 0 11) - (S 64 a.toNatClampNeg)) ≤ 5
      · rw [if_pos c2, if_pos c2]
        have hp : zkp [65] [] S (z_up S 65 a.toNatClampNeg 1) := zkp_up zkp_S rfl rfl
        have kW : jWra (z_up S 65 a.toNatClampNeg 1) := by
          unfold jWra at hW ⊢
          simp only [zup1, Nat.reduceEqDiff, reduceIte, upd_r]
          refine ⟨hW.1, hW.2.1, fun j hj => ?_⟩
          rw [if_neg (by omega)]; exact hW.2.2 j hj
        exact ⟨(by unfold jI; exact ⟨(jSea_k rfl hp (jI_Sea h)), (jKey_k rfl hp (jI_Key h)), (jEng_k rfl hp (jI_Eng h)), (jPpl_k rfl hp (jI_Ppl h)), (jTok_k rfl hp (jI_Tok h)), (jTim_k rfl hp (jI_Tim h)), (jUse_k rfl hp (jI_Use h)), (jLea_k rfl hp (jI_Lea h)), (jEnd_k rfl hp (jI_End h)), (jLT_k rfl hp (jI_LT h)), (jCnt_k rfl hp (jI_Cnt h)), (jSto_k rfl hp (jI_Sto h)), (jFar_k rfl hp (jI_Far h)), kW, (jCas_k rfl hp (jI_Cas h)), (jCer_k rfl hp (jI_Cer h)), (jSin_k rfl hp (jI_Sin h))⟩), fun e => absurd e c0, fun _ => by have := h63.1; omega, fun _ e => absurd c1 e, fun _ _ _ => ⟨rfl, zup_s _ _ _ _⟩⟩
      · rw [if_neg c2, if_neg c2]
        refine ⟨h, fun e => absurd e c0, fun _ => by decide, fun _ e => absurd c1 e, fun _ _ e => absurd ?_ c2⟩
        rw [e, Int32.sub_self]; decide
    · rw [if_neg c1, if_neg c1]
      exact ⟨h, fun e => absurd e c0, fun _ => by decide, fun _ _ => rfl, fun _ e => absurd e c1⟩
