/-! the middles of the requests: cases, certificates -/
def jb2 (k p : Nat) : Bool := decide (0 ≤ (Int32.ofNat k ||| zshl 1 (Int32.ofNat p)).toInt) && (decide ((Int32.ofNat k ||| zshl 1 (Int32.ofNat p)).toInt ≤ 255) && (decide (1 ≤ (F322 (Int32.ofNat k ||| zshl 1 (Int32.ofNat p)) (fun _ _ => 0)).toInt) && decide ((F322 (Int32.ofNat k ||| zshl 1 (Int32.ofNat p)) (fun _ _ => 0)).toInt ≤ 8)))
theorem jb2_ok : ∀ k, k < 256 → ∀ p, p < 8 → jb2 k p = true := by decide +kernel
theorem F322_S (x : Int32) (A B : zS) : F322 x A = F322 x B := rfl
theorem jbits {x p : Int32} (hx : zn 255 x) (hp : zn 7 p) (A : zS) : zn 255 (x ||| zshl 1 p) ∧ 1 ≤ (F322 (x ||| zshl 1 p) A).toInt ∧ (F322 (x ||| zshl 1 p) A).toInt ≤ 8 := by
  have h1 := zn_cl hx
  have h2 := zn_cl hp
  have h := jb2_ok x.toNatClampNeg (by omega) p.toNatClampNeg (by omega)
  unfold jb2 at h
  rw [zk_of hx.1, zk_of hp.1] at h
  simp only [Bool.and_eq_true, decide_eq_true_eq] at h
  rw [F322_S _ (fun _ _ => 0) A] at h
  exact ⟨⟨h.1, h.2.1⟩, h.2.2⟩
theorem jor_id (x y : Int32) : (x ||| y) ||| y = x ||| y := by rw [Int32.or_assoc, Int32.or_self]
theorem jm206 {n : Nat} {S : zS} (h : jJ n S) (a b : Int32) (hb : zx 20 b) (hbc : b.toInt < (S 10 4).toInt) : jJ n (G206 a b S) ∧ jAns (F206 a b S) ∧ (F206 a b S = -4 ∨ F206 a b S = -7 ∨ (1 ≤ (F206 a b S).toInt ∧ (F206 a b S).toInt ≤ 8)) := by
  have hC := jJ_Cas h
  have hT := jJ_Tok h
  have hx := zx_iff.mp hb
  have hnb := zk_nat hx.1
  have hnc := zk_nat (rCas_0 hC).1
  have h70 := (rCas_2 hC) b.toNatClampNeg
  have hp := (rTok_1 hT) a.toNatClampNeg
  unfold G206 F206
  by_cases c0 : S 71 b.toNatClampNeg = 0
  · rw [if_pos c0, if_pos c0]
    by_cases c1 : a = S 66 b.toNatClampNeg
    · rw [if_pos c1, if_pos c1]; exact ⟨h, jAns_c (by decide), Or.inl rfl⟩
    · rw [if_neg c1, if_neg c1]
      by_cases c2 : S 32 a.toNatClampNeg = -1
      · rw [if_pos c2, if_pos c2]; exact ⟨h, jAns_c (by decide), Or.inl rfl⟩
      · rw [if_neg c2, if_neg c2]
        by_cases c3 : S 32 a.toNatClampNeg = S 32 (S 66 b.toNatClampNeg).toNatClampNeg
        · rw [if_pos c3, if_pos c3]; exact ⟨h, jAns_c (by decide), Or.inl rfl⟩
        · rw [if_neg c3, if_neg c3]
          have hz : ¬ (S 32 a.toNatClampNeg).toInt = -1 := fun e => c2 (zk_eq.mpr e)
          obtain ⟨b1, b2, b3⟩ := jbits h70 (p := S 32 a.toNatClampNeg) (by unfold zn; omega) (z_up S 70 b.toNatClampNeg ((S 70 b.toNatClampNeg) ||| (zshl 1 (S 32 a.toNatClampNeg))))
          have hp : zkp [70] [] S (z_up S 70 b.toNatClampNeg ((S 70 b.toNatClampNeg) ||| (zshl 1 (S 32 a.toNatClampNeg)))) := zkp_up zkp_S rfl rfl
          have kC : jCas (z_up S 70 b.toNatClampNeg ((S 70 b.toNatClampNeg) ||| (zshl 1 (S 32 a.toNatClampNeg)))) := by
            unfold jCas at hC ⊢
            obtain ⟨q1, q2, q3, q4, q5, q6⟩ := hC
            simp only [zup1, Nat.reduceEqDiff, reduceIte, upd_r]
            refine ⟨q1, fun j hj => ?_, fun j => ?_, q4, q5, q6⟩
            · rw [if_neg (by omega)]; exact q2 j hj
            · split
              · exact b1
              · exact q3 j
          exact ⟨(by unfold jJ; exact ⟨(jSea_k rfl hp (jJ_Sea h)), (jKey_k rfl hp (jJ_Key h)), (jEng_k rfl hp (jJ_Eng h)), (jPpl_k rfl hp (jJ_Ppl h)), (jTok_k rfl hp (jJ_Tok h)), (jTim_k rfl hp (jJ_Tim h)), (jLea_k rfl hp (jJ_Lea h)), (jEnd_k rfl hp (jJ_End h)), (jLT_k rfl hp (jJ_LT h)), (jCnt_k rfl hp (jJ_Cnt h)), (jSto_k rfl hp (jJ_Sto h)), (jFar_k rfl hp (jJ_Far h)), (jWra_k rfl hp (jJ_Wra h)), kC, (jCer_k rfl hp (jJ_Cer h)), (jSin_k rfl hp (jJ_Sin h))⟩), jAns_n (by unfold zn; omega), Or.inr (Or.inr ⟨b2, b3⟩)⟩
  · rw [if_neg c0, if_neg c0]; exact ⟨h, jAns_c (by decide), Or.inr (Or.inl rfl)⟩
theorem jm207 {n : Nat} {S : zS} (h : jJ n S) (a b : Int32) (hb : zx 20 b) (hbc : b.toInt < (S 10 4).toInt) : jJ n (G207 a b S) ∧ jAns (F207 a b S) ∧ (0 ≤ (F207 a b S).toInt → G207 a b S 71 b.toNatClampNeg = 1) ∧ ((F207 a b S).toInt < 0 → G207 a b S = S) ∧ ¬ F207 a b S = -1 := by
  have hC := jJ_Cas h
  have hx := zx_iff.mp hb
  have hnb := zk_nat hx.1
  have hnc := zk_nat (rCas_0 hC).1
  have hv := jite_n (P := S 16 ((S 67 b.toNatClampNeg) / 36).toNatClampNeg = 0) (jJ_Sto h) (S 67 b.toNatClampNeg) (S 68 b.toNatClampNeg) (S 2 3)
  have hv1 : ¬ (if ((S 16 ((S 67 b.toNatClampNeg) / 36).toNatClampNeg) = 0) then ((F110 (S 67 b.toNatClampNeg) (S 68 b.toNatClampNeg) (S 2 3) S) : Int32) else (-13)) = -1 := by
    split
    · rcases jnum (jJ_Sto h) (S 67 b.toNatClampNeg) (S 68 b.toNatClampNeg) (S 2 3) with e | e | e
      · intro e2; rw [e2] at e; exact absurd e.1 (by decide)
      · rw [e]; decide
      · rw [e]; decide
    · decide
  unfold G207 F207
  generalize (if ((S 16 ((S 67 b.toNatClampNeg) / 36).toNatClampNeg) = 0) then ((F110 (S 67 b.toNatClampNeg) (S 68 b.toNatClampNeg) (S 2 3) S) : Int32) else (-13)) = v at hv hv1 ⊢
  by_cases c0 : S 71 b.toNatClampNeg = 0
  · rw [if_pos c0, if_pos c0]
    by_cases c1 : a = S 66 b.toNatClampNeg
    · rw [if_pos c1, if_pos c1]
      by_cases c2 : ¬ (F322 (S 70 b.toNatClampNeg) S) < (S 69 b.toNatClampNeg)
      · rw [if_pos c2, if_pos c2]
        by_cases c3 : v < 0
        · rw [if_pos c3]
          rw [zk_lt, jk_0] at c3
          exact ⟨h, hv, fun e => by omega, fun _ => rfl, hv1⟩
        · rw [if_neg c3]
          rw [zk_lt, jk_0] at c3
          have hp : zkp [71] [] S (z_up S 71 b.toNatClampNeg 1) := zkp_up zkp_S rfl rfl
          have kC : jCas (z_up S 71 b.toNatClampNeg 1) := by
            unfold jCas at hC ⊢
            obtain ⟨q1, q2, q3, q4, q5, q6⟩ := hC
            simp only [zup1, Nat.reduceEqDiff, reduceIte, upd_r]
            refine ⟨q1, fun j hj => ?_, q3, q4, q5, q6⟩
            rw [if_neg (by omega)]; exact q2 j hj
          exact ⟨(by unfold jJ; exact ⟨(jSea_k rfl hp (jJ_Sea h)), (jKey_k rfl hp (jJ_Key h)), (jEng_k rfl hp (jJ_Eng h)), (jPpl_k rfl hp (jJ_Ppl h)), (jTok_k rfl hp (jJ_Tok h)), (jTim_k rfl hp (jJ_Tim h)), (jLea_k rfl hp (jJ_Lea h)), (jEnd_k rfl hp (jJ_End h)), (jLT_k rfl hp (jJ_LT h)), (jCnt_k rfl hp (jJ_Cnt h)), (jSto_k rfl hp (jJ_Sto h)), (jFar_k rfl hp (jJ_Far h)), (jWra_k rfl hp (jJ_Wra h)), kC, (jCer_k rfl hp (jJ_Cer h)), (jSin_k rfl hp (jJ_Sin h))⟩), hv, fun _ => zup_s _ _ _ _, fun e => absurd e c3, hv1⟩
      · rw [if_neg c2, if_neg c2]; exact ⟨h, jAns_c (by decide), fun e => absurd e (by decide), fun _ => rfl, by decide⟩
    · rw [if_neg c1, if_neg c1]; exact ⟨h, jAns_c (by decide), fun e => absurd e (by decide), fun _ => rfl, by decide⟩
  · rw [if_neg c0, if_neg c0]; exact ⟨h, jAns_c (by decide), fun e => absurd e (by decide), fun _ => rfl, by decide⟩
/-- the issuer for a path -/
theorem jF3 {S : zS} (h : jCer S) (a : Int32) (ha : zx 216 a) : F3 a S = -1 ∨ (¬ zrem a 6 = 0 ∧ ∃ j, j < (S 11 0).toNatClampNeg ∧ F3 a S = Int32.ofNat j ∧ S 74 j = Int32.ofNat j) := by
  unfold F3
  by_cases c0 : zrem a 6 = 0
  · rw [if_pos c0]; exact Or.inl rfl
  · rw [if_neg c0]
    have hcl := zn_cl (rCer_0 h)
    have hx := zx_iff.mp ha
    have e6 := zrem_nn (x := a) (y := 6) (by decide) hx.1
    rw [jk_6] at e6
    have hr : zrem (a - zrem a 6) 6 = 0 := by
      have e1 : (a - zrem a 6).toInt = a.toInt - a.toInt % 6 := by rw [zk_tsub (by omega) (by omega), e6]
      have e2 := zrem_nn (x := a - zrem a 6) (y := 6) (by decide) (by omega)
      rw [jk_6, e1] at e2
      rw [zk_eq, e2, jk_0]; omega
    have key := zfold_inv (f := fun j b => if S 72 j = a - zrem a 6 then Int32.ofNat j else b) (i := 0) (n := (S 11 0).toNatClampNeg) (a := (-1 : Int32)) (I := fun _ (v : Int32) => v = -1 ∨ ∃ j, j < (S 11 0).toNatClampNeg ∧ v = Int32.ofNat j ∧ S 74 j = Int32.ofNat j) (Or.inl rfl) (fun j v hj hI => by
      rw [Nat.zero_add]
      split
      · next e => exact Or.inr ⟨j, hj, rfl, ((rCer_2 h) j hj).2 (by rw [e]; exact hr)⟩
      · exact hI)
    exact key.imp id (fun e => ⟨c0, e⟩)
/-- a certificate more -/
theorem jcert {S : zS} (h : jCer S) (a b c : Int32) (ha : zx 216 a) (hm : (S 11 0).toInt < 30) (hb : (b = -1 ∧ (zrem a 6 = 0 ∨ True)) ∨ (¬ zrem a 6 = 0 ∧ ∃ j, j < (S 11 0).toNatClampNeg ∧ b = Int32.ofNat j ∧ S 74 j = Int32.ofNat j)) : jCer (G4 a b c S) := by
  have h0 := rCer_0 h
  have hcl := zn_cl h0
  have e := jk_p _ h0 (by decide)
  have hn1 := zk_nat h0.1
  have ho := zk_of h0.1
  have hn2 := zk_nat (x := (S 11 0) + 1) (by unfold zn at h0; omega)
  have em : ((S 11 0) + 1).toNatClampNeg = (S 11 0).toNatClampNeg + 1 := by omega
  generalize hv : (if (b = (-1)) then ((S 11 0) : Int32) else b) = v
  have hv2 : (v = S 11 0) ∨ (¬ zrem a 6 = 0 ∧ ∃ j, j < (S 11 0).toNatClampNeg ∧ v = Int32.ofNat j ∧ S 74 j = Int32.ofNat j) := by
    rcases hb with ⟨e1, _⟩ | ⟨c0, j, hj, e1, e2⟩
    · rw [if_pos e1] at hv; exact Or.inl hv.symm
    · have : ¬ b = -1 := fun e9 => by
        have := zk_ti j (by omega)
        rw [← e1, e9] at this
        have h9 : (-1 : Int32).toInt = -1 := rfl
        omega
      rw [if_neg this] at hv
      exact Or.inr ⟨c0, j, hj, hv.symm.trans e1, e2⟩
  unfold G4
  rw [hv]
  unfold jCer at h ⊢
  obtain ⟨h1, h2, h3, h4, h5, h6⟩ := h
  simp only [zup1, Nat.reduceEqDiff, reduceIte, upd_r]
  rw [em]
  refine ⟨by unfold zn at *; omega, fun q hq => ?_, fun q hq => ?_, h4, h5, fun q hq => h6 q (by omega)⟩
  · by_cases hqm : q = (S 11 0).toNatClampNeg
    · rw [if_pos hqm]
      rcases hv2 with e1 | ⟨c0, j, hj, e1, e2⟩
      · rw [e1, if_pos rfl]; exact ⟨by omega, by omega, rfl⟩
      · have ej := zk_ti j (by omega)
        have ex := zk_ix j (by omega)
        rw [e1, ex, if_neg (by omega), e2]; exact ⟨by omega, by omega, rfl⟩
    · rw [if_neg hqm]
      obtain ⟨q1, q2, q3⟩ := h2 q (by omega)
      have := zk_nat q1
      rw [if_neg (by omega)]; exact ⟨q1, q2, q3⟩
  · by_cases hqm : q = (S 11 0).toNatClampNeg
    · rw [if_pos hqm, if_pos hqm]
      refine ⟨ha, fun e9 => ?_⟩
      rcases hv2 with e1 | ⟨c0, _⟩
      · rw [e1, hqm]; exact ho.symm
      · exact absurd e9 c0
    · rw [if_neg hqm, if_neg hqm]; exact h3 q (by omega)
theorem jm208 {n : Nat} {S : zS} (h : jJ n S) (a b : Int32) (ha : zx 216 a) (hb : 1 ≤ b.toInt ∧ b.toInt ≤ 200) (hn : n < 500) : jJ n (G208 a b S) ∧ jAns (F208 a b S) ∧ (0 ≤ (F208 a b S).toInt → F208 a b S = S 11 0 ∧ G208 a b S 11 0 = (S 11 0) + 1 ∧ F7 (S 11 0) (S 0 11) (G208 a b S) = 1) ∧ ((F208 a b S).toInt < 0 → G208 a b S 11 0 = S 11 0) ∧ ¬ F208 a b S = -1 := by
  have hC := jJ_Cer h
  have h3 := jF3 hC a ha
  have h0 := rCer_0 hC
  have hcl := zn_cl h0
  have hn1 := zk_nat h0.1
  have ho := zk_of h0.1
  have hh := rKey_0 (jJ_Key h)
  have eb : ((S 0 11) + b).toInt = (S 0 11).toInt + b.toInt := by unfold zn at hh; rw [zk_tadd (by omega) (by omega)]
  have hz := (rCer_5 hC) (S 11 0).toNatClampNeg (Nat.le_refl _)
  have hp : ∀ v : Int32, zkp [72, 74, 73, 11] [11000] S (G4 a v ((S 0 11) + b) S) := fun v => zkp_tr zkp_S (p_G4 a v ((S 0 11) + b) S) rfl rfl
  have r11 : ∀ v : Int32, G4 a v ((S 0 11) + b) S 11 0 = (S 11 0) + 1 := fun v => by simp only [G4, zup1, Nat.reduceEqDiff, reduceIte, upd_r]
  have r76 : ∀ v : Int32, G4 a v ((S 0 11) + b) S 76 = S 76 := fun v => (hp v).1 76 rfl
  have r73 : ∀ v : Int32, G4 a v ((S 0 11) + b) S 73 = upd (S 73) (S 11 0).toNatClampNeg (if (v = (-1)) then (((S 0 11) + b) : Int32) else (zmin ((S 0 11) + b) (S 73 v.toNatClampNeg))) := fun v => by simp only [G4, zup1, Nat.reduceEqDiff, reduceIte]
  have r74 : ∀ v : Int32, G4 a v ((S 0 11) + b) S 74 = upd (S 74) (S 11 0).toNatClampNeg (if (v = (-1)) then ((S 11 0) : Int32) else v) := fun v => by simp only [G4, zup1, Nat.reduceEqDiff, reduceIte]
  have hm1 : ¬ (0 : Int) ≤ (-1 : Int32).toInt := by decide
  unfold G208 F208
  by_cases c0 : S 16 (a / 36).toNatClampNeg = 2
  · rw [if_pos c0, if_pos c0]
    by_cases c1 : S 11 0 < 30
    · rw [if_neg (show ¬ ¬ S 11 0 < 30 from fun e => e c1), if_neg (show ¬ ¬ S 11 0 < 30 from fun e => e c1)]
      have c1' : (S 11 0).toInt < 30 := by rw [zk_lt] at c1; exact c1
      by_cases c2 : F3 a S = -1
      · rw [if_pos c2, if_pos c2]
        have kC := jcert hC a (F3 a S) ((S 0 11) + b) ha c1' (Or.inl ⟨c2, Or.inr trivial⟩)
        have hp := hp (F3 a S)
        refine ⟨(by unfold jJ; exact ⟨(jSea_k rfl hp (jJ_Sea h)), (jKey_k rfl hp (jJ_Key h)), (jEng_k rfl hp (jJ_Eng h)), (jPpl_k rfl hp (jJ_Ppl h)), (jTok_k rfl hp (jJ_Tok h)), (jTim_k rfl hp (jJ_Tim h)), (jLea_k rfl hp (jJ_Lea h)), (jEnd_k rfl hp (jJ_End h)), (jLT_k rfl hp (jJ_LT h)), (jCnt_k rfl hp (jJ_Cnt h)), (jSto_k rfl hp (jJ_Sto h)), (jFar_k rfl hp (jJ_Far h)), (jWra_k rfl hp (jJ_Wra h)), (jCas_k rfl hp (jJ_Cas h)), kC, (jSin_k rfl hp (jJ_Sin h))⟩), jAns_n (zn_mono h0 (by decide)), fun _ => ⟨rfl, r11 _, ?_⟩, fun e => by have := h0.1; omega, fun e => by have := h0.1; rw [e] at this; exact hm1 this⟩
        unfold F7
        rw [r73, r74, r76, upd_r, if_pos rfl, if_pos c2, if_neg (by rw [zk_le, eb]; omega), if_pos hz.2, upd_r, if_pos rfl, if_pos c2, if_pos rfl]
      · rw [if_neg c2, if_neg c2]
        obtain ⟨c00, j, hj, e1, e2⟩ := h3.resolve_left c2
        by_cases c3 : F7 (F3 a S) (S 0 11) S = 0
        · rw [if_pos c3, if_pos c3]; exact ⟨h, jAns_c (by decide), fun e => absurd e (by decide), fun _ => rfl, by decide⟩
        · rw [if_neg c3, if_neg c3]
          have kC := jcert hC a (F3 a S) ((S 0 11) + b) ha c1' (Or.inr ⟨c00, j, hj, e1, e2⟩)
          have hp := hp (F3 a S)
          refine ⟨(by unfold jJ; exact ⟨(jSea_k rfl hp (jJ_Sea h)), (jKey_k rfl hp (jJ_Key h)), (jEng_k rfl hp (jJ_Eng h)), (jPpl_k rfl hp (jJ_Ppl h)), (jTok_k rfl hp (jJ_Tok h)), (jTim_k rfl hp (jJ_Tim h)), (jLea_k rfl hp (jJ_Lea h)), (jEnd_k rfl hp (jJ_End h)), (jLT_k rfl hp (jJ_LT h)), (jCnt_k rfl hp (jJ_Cnt h)), (jSto_k rfl hp (jJ_Sto h)), (jFar_k rfl hp (jJ_Far h)), (jWra_k rfl hp (jJ_Wra h)), (jCas_k rfl hp (jJ_Cas h)), kC, (jSin_k rfl hp (jJ_Sin h))⟩), jAns_n (zn_mono h0 (by decide)), fun _ => ⟨rfl, r11 _, ?_⟩, fun e => by have := h0.1; omega, fun e => by have := h0.1; rw [e] at this; exact hm1 this⟩
          rw [e1] at c3 c2 ⊢
          have ex := zk_ix j (by omega)
          have ej := zk_ti j (by omega)
          unfold F7 at c3
          rw [ex] at c3
          have g1 : ¬ S 73 j ≤ S 0 11 := fun e => c3 (if_pos e)
          rw [if_neg g1] at c3
          have g2 : S 76 j = 0 := by
            by_cases g : S 76 j = 0
            · exact g
            · exact absurd (if_neg g) c3
          unfold F7
          have hjne : ¬ j = (S 11 0).toNatClampNeg := by omega
          have hno : ¬ Int32.ofNat j = S 11 0 := fun e => hjne (by rw [← e, ex])
          rw [r73, r74, r76, upd_r, if_pos rfl, if_neg c2, ex, if_neg (by rw [zk_le] at g1 ⊢; rw [jmin, eb]; split <;> omega), if_pos hz.2, upd_r, if_pos rfl, if_neg c2, if_neg hno, ex, upd_r, if_neg hjne, if_neg g1, if_pos g2]
    · rw [if_pos (show ¬ S 11 0 < 30 from c1), if_pos (show ¬ S 11 0 < 30 from c1)]
      exact ⟨h, jAns_c (by decide), fun e => absurd e (by decide), fun _ => rfl, by decide⟩
  · rw [if_neg c0, if_neg c0]
    exact ⟨h, jAns_c (by decide), fun e => absurd e (by decide), fun _ => rfl, by decide⟩
