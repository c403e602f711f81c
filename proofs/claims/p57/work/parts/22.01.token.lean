/-! tokens: one dies with what stands under it, and the leases -/
theorem jTim_mono {S S' : zS} (k0 : S' 0 11 = S 0 11) (k5 : S' 5 0 = S 5 0) (k34 : S' 34 = S 34) (k31 : S' 31 = S 31) (k35 : S' 35 = S 35) (h40 : ∀ i, S' 40 i = 0 → S 40 i = 0) (h : jTim S) : jTim S' := by
  unfold jTim at *
  rw [k0, k5, k34, k31, k35]
  exact fun j hj e => h j hj (h40 j e)
theorem jTok_die {S S' : zS} (k5 : S' 5 0 = S 5 0) (k31 : S' 31 = S 31) (k32 : S' 32 = S 32) (k36 : S' 36 = S 36) (k37 : S' 37 = S 37) (k39 : S' 39 = S 39) (h40 : ∀ i, S' 40 i = S 40 i ∨ (i < (S 5 0).toNatClampNeg ∧ S' 40 i = 1)) (h : jTok S) : jTok S' := by
  unfold jTok at *
  rw [k5, k31, k32, k36, k37, k39]
  obtain ⟨h1, h2, h3, h4, h5, h6, h7⟩ := h
  refine ⟨h1, h2, h3, fun j => ?_, fun j hj => ?_, h6, h7⟩
  · rcases h40 j with e | ⟨_, e⟩
    · rw [e]; exact h4 j
    · rw [e]; exact Or.inr rfl
  · rcases h40 j with e | ⟨e9, e⟩
    · rw [e]; exact h5 j hj
    · omega
theorem jk_p1 {a : Int32} {m : Nat} (h0 : 0 ≤ a.toInt) (h1 : a.toInt < m) (hm : m ≤ 1000) : (a + 1).toNatClampNeg = a.toNatClampNeg + 1 := by
  have e : (a + 1).toInt = a.toInt + 1 := by rw [zk_tadd (by rw [zk_1]; omega) (by rw [zk_1]; omega), zk_1]
  have e1 := zk_nat (x := a + 1) (by omega)
  have e2 := zk_nat h0
  omega
/-- the walk that finds those under a token -/
theorem jw129 {S : zS} (a : Int32) (i0 : Nat) (hm : zn 40 (S 5 0)) : zkp [40] [] S (K129_18_S a 1 i0 S) ∧ (∀ i, K129_18_S a 1 i0 S 40 i = S 40 i ∨ (i < (S 5 0).toNatClampNeg ∧ K129_18_S a 1 i0 S 40 i = 1)) ∧ 1 ≤ (K129_18_c2 a 1 i0 S).toInt ∧ (K129_18_c2 a 1 i0 S).toInt ≤ 1 + ((S 5 0).toNatClampNeg - i0 : Nat) := by
  unfold K129_18_S K129_18_c2 K129_18
  have hcl := zn_cl hm
  exact zfold_inv (f := k129_18 a) (i := i0) (n := (S 5 0).toNatClampNeg - i0) (a := ((1 : Int32), S)) (I := fun j (c : Int32 × zS) => zkp [40] [] S c.2 ∧ (∀ i, c.2 40 i = S 40 i ∨ (i < (S 5 0).toNatClampNeg ∧ c.2 40 i = 1)) ∧ 1 ≤ c.1.toInt ∧ c.1.toInt ≤ 1 + (j : Nat)) ⟨zkp_S, fun i => Or.inl rfl, Int.le_refl _, Int.le_refl _⟩ (fun j c hj hI => by
    obtain ⟨i1, i2, i3, i4⟩ := hI
    unfold k129_18
    by_cases c0 : c.2 40 (i0 + j) = 0
    · by_cases c1 : F130 (Int32.ofNat (i0 + j)) c.2 = 0
      · simp only [if_pos c0, if_pos c1]; exact ⟨i1, i2, i3, by omega⟩
      · simp only [if_pos c0, if_neg c1]
        refine ⟨zkp_up i1 rfl rfl, fun i => ?_, ?_, ?_⟩
        · rw [zup2, if_pos rfl]
          by_cases hij : i = i0 + j
          · subst hij; rw [if_pos rfl]; exact Or.inr ⟨by omega, rfl⟩
          · rw [if_neg hij]; exact i2 i
        · rw [zk_tadd (by rw [zk_1]; omega) (by rw [zk_1]; omega), zk_1]; omega
        · rw [zk_tadd (by rw [zk_1]; omega) (by rw [zk_1]; omega), zk_1]; omega
    · simp only [if_neg c0]; exact ⟨i1, i2, i3, by omega⟩)
/-- the tokens behind the death of one -/
def jD (a : Int32) (S : zS) : zS := if S 40 a.toNatClampNeg = 0 then K129_18_S a 1 (a + 1).toNatClampNeg (z_up S 40 a.toNatClampNeg 1) else S
theorem jD_h {S : zS} {a : Int32} (hm : zn 40 (S 5 0)) (h0 : 0 ≤ a.toInt) (h1 : a.toInt < (S 5 0).toInt) : zkp [40] [] S (jD a S) ∧ (∀ i, jD a S 40 i = S 40 i ∨ (i < (S 5 0).toNatClampNeg ∧ jD a S 40 i = 1)) ∧ ¬ jD a S 40 a.toNatClampNeg = 0 ∧ (if S 40 a.toNatClampNeg = 0 then 1 ≤ (A154 a S).toInt ∧ (A154 a S).toInt ≤ (S 5 0).toInt else A154 a S = 0) := by
  have hcl := zn_cl hm
  have hn := zk_nat hm.1
  have hna := zk_nat h0
  unfold jD A154
  by_cases c0 : S 40 a.toNatClampNeg = 0
  · simp only [if_pos c0]
    have hk : zkp [40] [] S (z_up S 40 a.toNatClampNeg 1) := zkp_up zkp_S rfl rfl
    have e5 : z_up S 40 a.toNatClampNeg 1 5 = S 5 := hk.1 5 rfl
    obtain ⟨w1, w2, w3, w4⟩ := jw129 (S := z_up S 40 a.toNatClampNeg 1) a (a + 1).toNatClampNeg (by rw [e5]; exact hm)
    have hp1 := jk_p1 h0 (m := 40) (by omega) (by decide)
    rw [e5] at w2 w4
    have hall : ∀ i, K129_18_S a 1 (a + 1).toNatClampNeg (z_up S 40 a.toNatClampNeg 1) 40 i = S 40 i ∨ (i < (S 5 0).toNatClampNeg ∧ K129_18_S a 1 (a + 1).toNatClampNeg (z_up S 40 a.toNatClampNeg 1) 40 i = 1) := fun i => by
      rcases w2 i with e | e
      · rw [e, zup2, if_pos rfl]
        by_cases hij : i = a.toNatClampNeg
        · rw [if_pos hij]; exact Or.inr ⟨by omega, rfl⟩
        · rw [if_neg hij]; exact Or.inl rfl
      · exact Or.inr e
    refine ⟨zkp_tr hk w1 rfl rfl, hall, ?_, w3, ?_⟩
    · rcases w2 a.toNatClampNeg with e | ⟨_, e⟩
      · rw [e, zup_s]; decide
      · rw [e]; decide
    · rw [hp1] at w4 ⊢; omega
  · simp only [if_neg c0]
    exact ⟨zkp_S, fun i => Or.inl trivial, c0, trivial⟩
/-- leases whose tokens are there -/
def jLw (S : zS) : Prop := ∀ j, j < (S 6 0).toNatClampNeg → S 46 j = 0 → (S 41 j).toInt < (S 5 0).toInt
theorem jLw_of {S : zS} (h : jLT S) : jLw S := fun j hj e => (h j hj e).2
theorem G200_e (a : Int32) (S : zS) : G200 a S = K54_6_5_2_S (jD a S 0 11) 0 (jD a S) := rfl
theorem jdie {n : Nat} {d : Int} {S : zS} {a : Int32} (hn : n < 1000) (hT : jTok S) (hL : jL n d S) (hw : jLw S) (h0 : 0 ≤ a.toInt) (h1 : a.toInt < (S 5 0).toInt) : jTok (G200 a S) ∧ jL n d (G200 a S) ∧ jLT (G200 a S) ∧ ¬ G200 a S 40 a.toNatClampNeg = 0 ∧ (∀ i, G200 a S 40 i = 0 → S 40 i = 0) ∧ (∀ i, G200 a S 46 i = 0 → S 46 i = 0) ∧ (∀ i, G200 a S 46 i = 0 → G200 a S 44 i = S 44 i) := by
  obtain ⟨k, dd, da, _⟩ := jD_h (rTok_0 hT) h0 h1
  have hL' : jL n d (jD a S) := ⟨jLea_k rfl k hL.1, by have := hL.2.1; unfold jEnx at *; rw [k.1 6 rfl, k.1 0 rfl, k.1 44 rfl, k.1 45 rfl, k.1 46 rfl]; exact this, jCnt_k rfl k hL.2.2⟩
  obtain ⟨w1, w2, w3, w9⟩ := jw54 hn hL' (x := jD a S 0 11) rfl
  have k2 := p_K54_6_5_2_S (jD a S 0 11) 0 (jD a S)
  rw [G200_e]
  have hT' : jTok (jD a S) := jTok_die (congrFun (k.1 5 rfl) 0) (k.1 31 rfl) (k.1 32 rfl) (k.1 36 rfl) (k.1 37 rfl) (k.1 39 rfl) dd hT
  refine ⟨jTok_k rfl k2 hT', w1, ?_, by rw [k2.1 40 rfl]; exact da, fun i e => ?_, fun i e => ?_, fun i e => by rw [w9 i e, k.1 44 rfl]⟩
  · unfold jLT
    rw [k2.1 6 rfl, k2.1 5 rfl, k2.1 40 rfl, k2.1 41 rfl]
    rw [k.1 6 rfl, k.1 41 rfl] at w3
    rw [k.1 6 rfl, k.1 5 rfl, k.1 41 rfl]
    intro j hj e
    have e2 := w2 j e
    rw [k.1 46 rfl] at e2
    exact ⟨w3 j hj e, hw j hj e2⟩
  · rw [k2.1 40 rfl] at e
    rcases dd i with e2 | ⟨_, e2⟩
    · rw [← e2]; exact e
    · rw [e2] at e; exact absurd e (by decide)
  · have e2 := w2 i e
    rw [k.1 46 rfl] at e2; exact e2
theorem jL_J {n : Nat} {S : zS} (h : jJ n S) : jL n 0 S := ⟨jJ_Lea h, jEnx_0.mpr (jJ_End h), jJ_Cnt h⟩
/-- all but a's uses -/
def jUm (a : Nat) (S : zS) : Prop := ∀ j, j < (S 5 0).toNatClampNeg → ¬ j = a → S 40 j = 0 → ¬ S 37 j = 0
theorem jUm_of {a : Nat} {S : zS} (h : jUse S) : jUm a S := fun j hj _ e => h j hj e
theorem jdieJ {n : Nat} {S : zS} {a : Int32} (hn : n < 1000) (h : jJ n S) (h0 : 0 ≤ a.toInt) (h1 : a.toInt < (S 5 0).toInt) : jJ n (G200 a S) ∧ (jUm a.toNatClampNeg S → jUse (G200 a S)) ∧ ¬ G200 a S 40 a.toNatClampNeg = 0 ∧ (∀ i, G200 a S 40 i = 0 → S 40 i = 0) ∧ (∀ i, G200 a S 46 i = 0 → S 46 i = 0) ∧ (∀ i, G200 a S 46 i = 0 → G200 a S 44 i = S 44 i) := by
  have hp := p_G200 a S
  obtain ⟨w1, w2, w3, w4, w5, w6, w7⟩ := jdie hn (jJ_Tok h) (jL_J h) (jLw_of (jJ_LT h)) h0 h1
  refine ⟨(by unfold jJ; exact ⟨(jSea_k rfl hp (jJ_Sea h)), (jKey_k rfl hp (jJ_Key h)), (jEng_k rfl hp (jJ_Eng h)), (jPpl_k rfl hp (jJ_Ppl h)), w1, (jTim_mono (congrFun (hp.1 0 rfl) 11) (congrFun (hp.1 5 rfl) 0) (hp.1 34 rfl) (hp.1 31 rfl) (hp.1 35 rfl) w5 (jJ_Tim h)), w2.1, (jEnx_0.mp w2.2.1), w3, w2.2.2, (jSto_k rfl hp (jJ_Sto h)), (jFar_k rfl hp (jJ_Far h)), (jWra_k rfl hp (jJ_Wra h)), (jCas_k rfl hp (jJ_Cas h)), (jCer_k rfl hp (jJ_Cer h)), (jSin_k rfl hp (jJ_Sin h))⟩), fun hu => ?_, w4, w5, w6, w7⟩
  unfold jUse
  unfold jUm at hu
  rw [hp.1 5 rfl, hp.1 37 rfl]
  intro j hj e
  exact hu j hj (fun e9 => by subst e9; exact w4 e) (w5 j e)
