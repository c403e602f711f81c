/-! the middles of the requests -/
theorem jk_9 : (9 : Int32).toInt = 9 := rfl
theorem jk_p (x : Int32) {n : Nat} (h : zn n x) (hn : n < 100000) : (x + 1).toInt = x.toInt + 1 := by
  unfold zn at h
  rw [zk_tadd (by rw [zk_1]; omega) (by rw [zk_1]; omega), zk_1]
/-- a value's number, or why not -/
theorem jnum {n : Nat} {S : zS} (h : jSto n S) (a b c : Int32) : zn 9999 (F110 a b c S) ∨ F110 a b c S = -7 ∨ F110 a b c S = -9 := by
  unfold F110
  generalize F107 a b S = q
  by_cases h1 : q = -1
  · rw [if_pos h1]; exact Or.inr (Or.inl rfl)
  · rw [if_neg h1]
    by_cases h2 : S 54 q.toNatClampNeg = 0
    · rw [if_pos h2]
      by_cases h3 : c ≤ S 53 q.toNatClampNeg
      · rw [if_pos h3]; exact Or.inl ((rSto_1 h) _ (by rw [h2]; decide))
      · rw [if_neg h3]; exact Or.inr (Or.inr rfl)
    · rw [if_neg h2]; exact Or.inr (Or.inl rfl)
def jAns (x : Int32) : Prop := -13 ≤ x.toInt ∧ x.toInt ≤ 9999 ∧ ¬ x = -2 ∧ ¬ x = -3
theorem jAns_n {x : Int32} (h : zn 9999 x) : jAns x := by
  unfold zn at h
  exact ⟨by omega, h.2, fun e => by rw [e] at h; exact absurd h.1 (by decide), fun e => by rw [e] at h; exact absurd h.1 (by decide)⟩
theorem jAns_c {x : Int32} (h : (decide (-13 ≤ x.toInt) && decide (x.toInt ≤ 9999) && decide (¬ x = -2) && decide (¬ x = -3)) = true) : jAns x := by
  simp only [Bool.and_eq_true, decide_eq_true_eq] at h
  exact ⟨h.1.1.1, h.1.1.2, h.1.2, h.2⟩
theorem jnumA {n : Nat} {S : zS} (h : jSto n S) (a b c : Int32) : jAns (F110 a b c S) := by
  rcases jnum h a b c with e | e | e
  · exact jAns_n e
  · rw [e]; exact jAns_c (by decide)
  · rw [e]; exact jAns_c (by decide)
theorem jite_n {n : Nat} {S : zS} (h : jSto n S) {P : Prop} [Decidable P] (a b c : Int32) : jAns (if P then ((F110 a b c S) : Int32) else (-13)) := by
  split
  · exact jnumA h a b c
  · exact jAns_c (by decide)
/-- a case more -/
theorem jcase {S : zS} (h : jCas S) (a b c d : Int32) (ha : zx 40 a) (hb : zx 216 b) (ht : ¬ S 5 0 = 0) : jCas (G32 a b c d S) := by
  unfold G32
  split
  · next hc =>
    unfold jCas at h ⊢
    obtain ⟨h1, h2, h3, h4, h5, h6⟩ := h
    rw [zk_lt] at hc
    have hc : (S 10 4).toInt < 20 := hc
    have e := jk_p _ h1 (by decide)
    have hn1 := zk_nat h1.1
    have hn2 := zk_nat (x := (S 10 4) + 1) (by unfold zn at h1; omega)
    simp only [zup1, Nat.reduceEqDiff, reduceIte, upd_r]
    refine ⟨by unfold zn at *; omega, fun j hj => h2 j (by omega), h3, fun j hj => ?_, fun j hj => ?_, fun e9 => absurd e9 ht⟩
    · rw [upd_r]; split
      · exact ha
      · exact h4 j hj
    · rw [upd_r]; split
      · exact hb
      · exact h5 j hj
  · exact h
theorem jm202 {n : Nat} {S : zS} (h : jJ n S) (a b c : Int32) (ha : zx 40 a) (hb : zx 216 b) (ht : ¬ S 5 0 = 0) : jJ n (G202 a b c S) ∧ jAns (F202 a b c S) := by
  have hv := jite_n (P := S 16 (b / 36).toNatClampNeg = 0) (jJ_Sto h) b c (S 2 3)
  unfold G202 F202
  generalize (if ((S 16 (b / 36).toNatClampNeg) = 0) then ((F110 b c (S 2 3) S) : Int32) else (-13)) = v at hv ⊢
  generalize (F64 (S 33 a.toNatClampNeg) (S 32 a.toNatClampNeg) b S) / 16 = r
  refine ⟨?_, ?_⟩
  · split
    · exact h
    · split
      · exact h
      · have hp := p_G32 a b c r S
        exact (by unfold jJ; exact ⟨(jSea_k rfl hp (jJ_Sea h)), (jKey_k rfl hp (jJ_Key h)), (jEng_k rfl hp (jJ_Eng h)), (jPpl_k rfl hp (jJ_Ppl h)), (jTok_k rfl hp (jJ_Tok h)), (jTim_k rfl hp (jJ_Tim h)), (jLea_k rfl hp (jJ_Lea h)), (jEnd_k rfl hp (jJ_End h)), (jLT_k rfl hp (jJ_LT h)), (jCnt_k rfl hp (jJ_Cnt h)), (jSto_k rfl hp (jJ_Sto h)), (jFar_k rfl hp (jJ_Far h)), (jWra_k rfl hp (jJ_Wra h)), (jcase (jJ_Cas h) a b c _ ha hb ht), (jCer_k rfl hp (jJ_Cer h)), (jSin_k rfl hp (jJ_Sin h))⟩)
  · split
    · exact hv
    · split
      · exact hv
      · split <;> exact jAns_c (by decide)
/-- the key of a value to be kept -/
theorem jk41 {n : Nat} {S : zS} (hn : n < 1000) (h : jKey n S) (x : Int32) : jKey (n + 1) (G41 x S) ∧ F41 x S = G41 x S 2 0 ∧ (S 2 0).toInt ≤ (G41 x S 2 0).toInt ∧ (G41 x S 2 0).toInt ≤ (S 2 0).toInt + 1 := by
  have hp := p_G41 x S
  unfold jKey at h ⊢
  obtain ⟨h1, h2, h3, h4⟩ := h
  have e : ((S 2 0) + 1).toInt = (S 2 0).toInt + 1 := by rw [zk_tadd (by rw [zk_1]; omega) (by rw [zk_1]; omega), zk_1]
  have e3 : G41 x S 2 3 = S 2 3 := hp.2 2 3 rfl rfl
  have key : (G41 x S 2 0 = S 2 0 ∨ G41 x S 2 0 = (S 2 0) + 1) ∧ F41 x S = G41 x S 2 0 := by
    unfold G41 F41
    split
    · simp only [zup2, Nat.reduceEqDiff, reduceIte]; exact ⟨Or.inr trivial, trivial⟩
    · split
      · simp only [zup2, Nat.reduceEqDiff, reduceIte]; exact ⟨Or.inl trivial, trivial⟩
      · simp only [zup2, Nat.reduceEqDiff, reduceIte]; exact ⟨Or.inr trivial, trivial⟩
  rw [hp.1 0 rfl, e3]
  obtain ⟨k1 | k1, k2⟩ := key
  · rw [k2, k1]; exact ⟨⟨zn_mono h1 (by omega), h2, h3, by omega⟩, rfl, by omega, by omega⟩
  · rw [k2, k1, e]; exact ⟨⟨zn_mono h1 (by omega), h2, by omega, by omega⟩, rfl, by omega, by omega⟩
theorem jP_cg {pa ke pa' ke' : Nat → Int32} {p a : Nat} : ∀ {m : Nat}, (∀ i, i < m → pa' (a + i) = pa (a + i) ∧ ke' (a + i) = ke (a + i)) → jP pa' ke' p a m = jP pa ke p a m
  | 0, _ => rfl
  | m + 1, h => by
    unfold jP
    rw [jP_cg (m := m) (fun i hi => h i (Nat.lt_succ_of_lt hi)), (h m (Nat.lt_succ_self m)).1, (h m (Nat.lt_succ_self m)).2]
/-- an entry more in the log -/
theorem jlog {n : Nat} {S : zS} (hn : n < 500) (h : jFar n S) (a b c d : Int32) (ha : zx 216 a) : jFar (n + 1) (G19 a b c d S) ∨ (¬ d = 0) := by
  by_cases hd : d = 0
  · left
    unfold jFar at h ⊢
    obtain ⟨h1, h2, h3, h4, h5⟩ := h
    have hlt : S 8 5 < 512 := by rw [zk_lt]; have := h1.2; show (S 8 5).toInt < 512; omega
    have e := jk_p _ h1 (by omega)
    have hn1 := zk_nat h1.1
    have hn2 := zk_nat h2.1
    have hn3 := zk_nat (x := (S 8 5) + 1) (by unfold zn at h1; omega)
    unfold G19
    rw [if_pos hlt]
    simp only [zup1, Nat.reduceEqDiff, reduceIte, upd_r]
    refine ⟨by unfold zn at *; omega, zn_up h2, by omega, fun j hj => ?_, fun p hp => ?_⟩
    · rw [upd_r]; split
      · exact ha
      · exact h4 j hj
    · obtain ⟨f1, f2⟩ := h5 p hp
      refine ⟨f1, ?_⟩
      have em : ((S 8 5) + 1).toNatClampNeg - (S 8 6).toNatClampNeg = ((S 8 5).toNatClampNeg - (S 8 6).toNatClampNeg) + 1 := by omega
      rw [em]
      unfold jP
      rw [jP_cg (pa := S 55) (ke := S 58) (fun i hi => ⟨by rw [upd_r, if_neg (by omega)], by rw [upd_r, if_neg (by omega)]⟩)]
      have el : (S 8 6).toNatClampNeg + ((S 8 5).toNatClampNeg - (S 8 6).toNatClampNeg) = (S 8 5).toNatClampNeg := by omega
      rw [el, upd_r, if_pos rfl, upd_r, if_pos rfl, if_neg (fun e9 => e9.2 hd)]
      exact f2
  · exact Or.inr hd
theorem jwrite {n : Nat} {S : zS} (hn : n < 500) (hS : jSto n S) (hF : jFar n S) (a b k : Int32) (ha : zx 216 a) (hb : zn 9999 b) (hk : 1 ≤ k.toInt) : jSto (n + 1) (G108 a b k (G19 a 0 b k S)) ∧ jFar (n + 1) (G108 a b k (G19 a 0 b k S)) := by
  have hp := p_G19 a 0 b k S
  have hS2 := jSto_k rfl hp hS
  have hx := zx_iff.mp ha
  have hna := zk_nat hx.1
  have ho := zk_of hx.1
  have e51 : G19 a 0 b k S 51 = S 51 := hp.1 51 rfl
  have h51 := (rSto_0 hS) a.toNatClampNeg (by omega)
  have e := jk_p _ h51 (by omega)
  refine ⟨?_, ?_⟩
  · unfold G108
    rw [e51]
    generalize ((a * 4) + (F323 ((S 51 a.toNatClampNeg) + 1) 4 (G19 a 0 b k S))).toNatClampNeg = q
    unfold jSto at hS2 ⊢
    obtain ⟨s1, s2, s3, s4⟩ := hS2
    simp only [zup1, Nat.reduceEqDiff, reduceIte, upd_r]
    rw [e51] at s1
    refine ⟨fun p hp => ?_, fun i hi => ?_, fun i => ?_, fun i => ?_⟩
    · rw [e51]; split
      · unfold zn at *; omega
      · exact zn_up (s1 p hp)
    · split
      · exact hb
      · next hne => rw [if_neg hne] at hi; exact s2 i hi
    · split
      · omega
      · exact s3 i
    · split
      · unfold zn; decide
      · exact s4 i
  · have hp2 : zkp [51, 52, 53, 54] [] (G19 a 0 b k S) (G108 a b k (G19 a 0 b k S)) := p_G108 a b k (G19 a 0 b k S)
    have e51' : G108 a b k (G19 a 0 b k S) 51 = upd (S 51) a.toNatClampNeg ((S 51 a.toNatClampNeg) + 1) := by
      unfold G108
      simp only [zup1, Nat.reduceEqDiff, reduceIte]
      rw [e51]
    unfold jFar at hF ⊢
    rw [hp2.1 8 rfl, hp2.1 55 rfl, hp2.1 58 rfl, hp2.1 59 rfl, e51']
    obtain ⟨h1, h2, h3, h4, h5⟩ := hF
    have hlt : S 8 5 < 512 := by rw [zk_lt]; have := h1.2; show (S 8 5).toInt < 512; omega
    have e2 := jk_p _ h1 (by omega)
    have hn1 := zk_nat h1.1
    have hn2 := zk_nat h2.1
    have hn3 := zk_nat (x := (S 8 5) + 1) (by unfold zn at h1; omega)
    unfold G19
    rw [if_pos hlt]
    simp only [zup1, Nat.reduceEqDiff, reduceIte, upd_r]
    refine ⟨by unfold zn at *; omega, zn_up h2, by omega, fun j hj => ?_, fun p hp => ?_⟩
    · rw [upd_r]; split
      · exact ha
      · exact h4 j hj
    · obtain ⟨f1, f2⟩ := h5 p hp
      refine ⟨f1, ?_⟩
      have em : ((S 8 5) + 1).toNatClampNeg - (S 8 6).toNatClampNeg = ((S 8 5).toNatClampNeg - (S 8 6).toNatClampNeg) + 1 := by omega
      rw [em]
      unfold jP
      rw [jP_cg (pa := S 55) (ke := S 58) (fun i hi => ⟨by rw [upd_r, if_neg (by omega)], by rw [upd_r, if_neg (by omega)]⟩)]
      have el : (S 8 6).toNatClampNeg + ((S 8 5).toNatClampNeg - (S 8 6).toNatClampNeg) = (S 8 5).toNatClampNeg := by omega
      rw [el, upd_r, if_pos rfl, upd_r, if_pos rfl]
      by_cases hpa : p = a.toNatClampNeg
      · rw [if_pos hpa, e]
        subst hpa
        split <;> omega
      · rw [if_neg hpa, if_neg (fun e9 => hpa (by have := e9.1; rw [this, zk_ix p (by omega)]))]
        omega
theorem jm203 {n : Nat} {S : zS} (hn : n < 500) (h : jJ n S) (a b c : Int32) (ha : zx 216 a) (hb : zn 9999 b) : jJ (n + 1) (G203 a b c S) ∧ jAns (F203 a b c S) := by
  have hx := zx_iff.mp ha
  have hna := zk_nat hx.1
  have hk := jk41 (by omega) (jJ_Key h) (S 0 11)
  have hp := p_G41 (S 0 11) S
  have hw := jwrite hn (jSto_k rfl hp (jJ_Sto h)) (jFar_k rfl hp (jJ_Far h)) a b (F41 (S 0 11) S) ha hb (by rw [hk.2.1]; have := rKey_1 hk.1; have := rKey_2 hk.1; omega)
  have hG : jJ (n + 1) (G108 a b (F41 (S 0 11) S) (G19 a 0 b (F41 (S 0 11) S) (G41 (S 0 11) S))) := by
    have hp2 : zkp [51, 52, 53, 54, 55, 56, 57, 58, 8] [8005] (G41 (S 0 11) S) (G108 a b (F41 (S 0 11) S) (G19 a 0 b (F41 (S 0 11) S) (G41 (S 0 11) S))) := zkp_tr (zkp_tr zkp_S (p_G19 a 0 b (F41 (S 0 11) S) (G41 (S 0 11) S)) rfl rfl) (p_G108 a b (F41 (S 0 11) S) (G19 a 0 b (F41 (S 0 11) S) (G41 (S 0 11) S))) rfl rfl
    have hp3 : zkp [2, 51, 52, 53, 54, 55, 56, 57, 58, 8] [2000, 2001, 2002, 8005] S (G108 a b (F41 (S 0 11) S) (G19 a 0 b (F41 (S 0 11) S) (G41 (S 0 11) S))) := zkp_tr (zkp_tr zkp_S hp rfl rfl) hp2 rfl rfl
    exact (by unfold jJ; exact ⟨(jSea_k rfl hp3 (jJ_Sea h)), (jKey_k rfl hp2 hk.1), (jEng_k rfl hp3 (jJ_Eng h)), (jPpl_k rfl hp3 (jJ_Ppl h)), (jTok_k rfl hp3 (jJ_Tok h)), (jTim_k rfl hp3 (jJ_Tim h)), (jLea_k rfl hp3 (jJ_Lea h)), (jEnd_k rfl hp3 (jJ_End h)), (jLT_k rfl hp3 (jJ_LT h)), (jCnt_u (Nat.le_succ n) (jCnt_k rfl hp3 (jJ_Cnt h))), hw.1, hw.2, (jWra_k rfl hp3 (jJ_Wra h)), (jCas_k rfl hp3 (jJ_Cas h)), (jCer_k rfl hp3 (jJ_Cer h)), (jSin_k rfl hp3 (jJ_Sin h))⟩)
  have h51 := (rSto_0 (jJ_Sto h)) a.toNatClampNeg (by omega)
  have hv : jAns (((G19 a 0 b (F41 (S 0 11) S) (G41 (S 0 11) S)) 51 a.toNatClampNeg) + 1) := by
    rw [(p_G19 a 0 b (F41 (S 0 11) S) (G41 (S 0 11) S)).1 51 rfl, hp.1 51 rfl]
    have e := jk_p _ h51 (by omega)
    exact jAns_n (by unfold zn at *; omega)
  have hu := jJ_u (Nat.le_succ n) h
  refine ⟨?_, ?_⟩
  · unfold G203
    split
    · split
      · exact hG
      · split
        · exact hG
        · exact hu
    · exact hu
  · unfold F203
    split
    · split
      · exact hv
      · split
        · exact hv
        · exact jAns_c (by decide)
    · exact jAns_c (by decide)
