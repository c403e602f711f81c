/-! the own parts of requests: reading, cases (wip/whole/gen/gen84.py) -/
theorem z107 {S T : zS} (e51 : S 51 = T 88) (b c : Int32) (hb : zx 216 b) : F107 b c S = (if ((¬ ((if (c = 0) then ((T 88 b.toNatClampNeg) : Int32) else c) < 1)) ∧ ((¬ ((T 88 b.toNatClampNeg) < (if (c = 0) then ((T 88 b.toNatClampNeg) : Int32) else c))) ∧ (¬ ((if (c = 0) then ((T 88 b.toNatClampNeg) : Int32) else c) ≤ ((T 88 b.toNatClampNeg) - 4))))) then ((4 * b) + (zrem (if (c = 0) then ((T 88 b.toNatClampNeg) : Int32) else c) 4)) else (-1)) ∧ (((¬ ((if (c = 0) then ((T 88 b.toNatClampNeg) : Int32) else c) < 1)) ∧ ((¬ ((T 88 b.toNatClampNeg) < (if (c = 0) then ((T 88 b.toNatClampNeg) : Int32) else c))) ∧ (¬ ((if (c = 0) then ((T 88 b.toNatClampNeg) : Int32) else c) ≤ ((T 88 b.toNatClampNeg) - 4))))) → zx 864 ((4 * b) + (zrem (if (c = 0) then ((T 88 b.toNatClampNeg) : Int32) else c) 4)) ∧ 1 ≤ (if (c = 0) then ((T 88 b.toNatClampNeg) : Int32) else c).toInt) := by
  unfold F107
  rw [e51]
  generalize (if (c = 0) then ((T 88 b.toNatClampNeg) : Int32) else c) = v
  have hv0 : (¬ v < 1) → 1 ≤ v.toInt := fun g => by rw [zk_lt, zlt_1] at g; omega
  refine ⟨?_, fun g => ⟨zx_slot' hb (zn_rem4 (by have := hv0 g.1; omega)), hv0 g.1⟩⟩
  by_cases g : ((¬ (v < 1)) ∧ ((¬ ((T 88 b.toNatClampNeg) < v)) ∧ (¬ (v ≤ ((T 88 b.toNatClampNeg) - 4)))))
  · rw [if_pos g, if_pos g, zfm_4 S (by have := hv0 g.1; omega), Int32.mul_comm]
  · rw [if_neg g, if_neg g]
theorem zx_m1 {n : Nat} {x : Int32} (h : zx n x) : ¬ x = -1 := by
  intro e
  rw [e, zx_iff] at h
  exact absurd h.1 (by decide)
theorem zn_m {n : Nat} {x c : Int32} (h : zn n x) (hc : c.toInt < 0) : ¬ x = c := by
  intro e
  rw [e] at h
  unfold zn at h
  omega
theorem z288 {n : Nat} {S T : zS} (h : zQ n S T) (b c : Int32) (hb : zx 216 b) : F288 b c T = (if ((S 16 (b / 36).toNatClampNeg) = 0) then ((F110 b c (S 2 3) S) : Int32) else (-13)) ∧ ¬ F288 b c T = -2 ∧ ¬ F288 b c T = -3 := by
  have hS := zQ_Sto h
  obtain ⟨e51, e53, e54, e52, hv, hnum, hst⟩ := hS
  unfold F288 F110
  rw [(zQ_Eng h).1, (zQ_Key h).2.2.2.1]
  by_cases c0 : T 84 (b / 36).toNatClampNeg = 0
  · rw [if_pos c0, if_pos c0]
    obtain ⟨k1, k2⟩ := z107 e51 b c hb
    generalize (if (c = 0) then ((T 88 b.toNatClampNeg) : Int32) else c) = v at k1 k2 ⊢
    by_cases g : ((¬ (v < 1)) ∧ ((¬ ((T 88 b.toNatClampNeg) < v)) ∧ (¬ (v ≤ ((T 88 b.toNatClampNeg) - 4)))))
    · rw [if_pos g] at k1 ⊢
      rw [k1, if_neg (zx_m1 (k2 g).1), e54, e53]
      by_cases c1 : T 91 ((4 * b) + (zrem v 4)).toNatClampNeg = 0
      · rw [if_pos c1, if_pos c1, e52 _ (by rw [c1]; decide)]
        refine ⟨rfl, ?_, ?_⟩
        · split
          · exact zn_m (hnum _) (by decide)
          · decide
        · split
          · exact zn_m (hnum _) (by decide)
          · decide
      · rw [if_neg c1, if_neg c1]
        exact ⟨rfl, by decide, by decide⟩
    · rw [if_neg g] at k1 ⊢
      rw [k1, if_pos rfl]
      exact ⟨rfl, by decide, by decide⟩
  · rw [if_neg c0, if_neg c0]
    exact ⟨rfl, by decide, by decide⟩
theorem zri {n : Nat} {S T : zS} (h : zQ n S T) (a c : Int32) : F257 a c T = F64 (S 33 a.toNatClampNeg) (S 32 a.toNatClampNeg) c S := by
  have hT := zQ_Tok h
  exact zrights (zQ_Rul h) (zQ_Ppl h) hT.2.2.2.1 hT.2.2.2.2.1 a c (hT.2.2.2.2.2.2.2.2.2.2.2.2.2.2.1 a.toNatClampNeg)
theorem zCas_p {S T : zS} (h : zCas S T) (a c d w : Int32) (hlt : T 13 72 < 20) (ha : 0 ≤ a.toInt ∧ a.toInt < (T 13 45).toInt) (hc : zx 216 c) (hd : zn 9999 d) : zCas (z_up (z_up (z_up (z_up (z_up S 66 (T 13 72).toNatClampNeg a) 67 (T 13 72).toNatClampNeg c) 68 (T 13 72).toNatClampNeg d) 69 (T 13 72).toNatClampNeg w) 10 4 ((T 13 72) + 1)) (z_up (z_up (z_up (z_up (z_up (z_up (z_up T 133 (T 13 72).toNatClampNeg a) 134 (T 13 72).toNatClampNeg c) 135 (T 13 72).toNatClampNeg d) 136 (T 13 72).toNatClampNeg w) 137 (T 13 72).toNatClampNeg 0) 138 (T 13 72).toNatClampNeg 0) 13 72 ((T 13 72) + 1)) := by
  unfold zCas at h ⊢
  obtain ⟨h0, h1, h2, h3, h4, h5, h6, h7, h8, h9, h10, h11, h12, h13⟩ := h
  have u7 : upd (T 137) (T 13 72).toNatClampNeg 0 = T 137 := zupd_s _ _ _ (h8 _ (Nat.le_refl _)).1
  have u8 : upd (T 138) (T 13 72).toNatClampNeg 0 = T 138 := zupd_s _ _ _ (h8 _ (Nat.le_refl _)).2
  rw [zk_lt, zlt_20] at hlt
  have e1 : (T 13 72 + 1).toInt = (T 13 72).toInt + 1 := by
    unfold zn at h7
    rw [zk_tadd (by rw [zk_1]; omega) (by rw [zk_1]; omega), zk_1]
  have e2 := zk_nat h7.1
  have e3 := zk_nat (x := T 13 72 + 1) (by have := h7.1; omega)
  simp only [zup2, zup1, h0, h1, h2, h3, h4, h5, h6, u7, u8, not_false_eq_true, not_true_eq_false, Nat.reduceEqDiff, reduceIte, true_and, and_true, ite_true, ite_false]
  refine ⟨?_, ?_, ?_, ?_, ?_, ?_, ?_⟩
  · have := h7.1; unfold zn; omega
  · intro j hj
    rw [if_neg (by omega), if_neg (by omega)]
    exact h8 j (by omega)
  · intro j hj
    by_cases ej : j = (T 13 72).toNatClampNeg
    · rw [if_pos ej]; exact ha
    · rw [if_neg ej]; exact h9 j (by omega)
  · intro j hj
    rw [upd_r]
    split
    · exact hc
    · exact h10 j hj
  · intro j hj
    split
    · exact hd
    · exact h11 j hj
  · intro j hj
    split
    · unfold zn; decide
    · exact h12 j hj
  · intro j hj
    split
    · exact Or.inl rfl
    · exact h13 j hj
theorem zrd {n : Nat} {S T : zS} (h : zQ n S T) (a c d : Int32) (hc : zx 216 c) (hd : zn 9999 d) (ha : 0 ≤ a.toInt ∧ a.toInt < (T 13 45).toInt) : F289 a c d T = F202 a c d S ∧ zQ n (G202 a c d S) (G289 a c d T) ∧ ¬ F202 a c d S = -2 ∧ ¬ F202 a c d S = -3 := by
  obtain ⟨k1, k2, k3⟩ := z288 h c d hc
  have hri := zri h a c
  have hC := zQ_Cas h
  have e10 : S 10 4 = T 13 72 := hC.1
  have e20 := zeq_top hC.2.2.2.2.2.2.2.1 zlt_20
  have key : F289 a c d T = F202 a c d S ∧ zCas (G202 a c d S) (G289 a c d T) ∧ ¬ F202 a c d S = -2 ∧ ¬ F202 a c d S = -3 := by
    unfold F289 F202 G202 G289 G32
    rw [← k1, ← hri, e10]
    simp only [e20]
    generalize F288 c d T = v at k2 k3 ⊢
    generalize F257 a c T = w
    by_cases c0 : v < 0
    · simp only [if_pos c0]; exact ⟨trivial, hC, k2, k3⟩
    by_cases c1 : w / 16 = 0
    · simp only [if_neg c0, if_pos c1]; exact ⟨trivial, hC, k2, k3⟩
    by_cases c2 : T 13 72 < 20
    · simp only [if_neg c0, if_neg c1, if_pos c2, not_true_eq_false, not_false_eq_true, c2, if_false, if_true]
      exact ⟨trivial, zCas_p hC a c d _ c2 ha hc hd, by decide, by decide⟩
    · simp only [if_neg c0, if_neg c1, if_neg c2, not_true_eq_false, not_false_eq_true, c2, if_false, if_true]
      exact ⟨trivial, hC, by decide, by decide⟩
  exact ⟨key.1, ⟨(zSeal_kc rfl (p_G202 a c d S) (zSeal_km rfl (p_G289 a c d T) (zQ_Seal h))), (zKey_kc rfl (p_G202 a c d S) (zKey_km rfl (p_G289 a c d T) (zQ_Key h))), (zEng_kc rfl (p_G202 a c d S) (zEng_km rfl (p_G289 a c d T) (zQ_Eng h))), (zRul_kc rfl (p_G202 a c d S) (zRul_km rfl (p_G289 a c d T) (zQ_Rul h))), (zPpl_kc rfl (p_G202 a c d S) (zPpl_km rfl (p_G289 a c d T) (zQ_Ppl h))), (zTok_kc rfl (p_G202 a c d S) (zTok_km rfl (p_G289 a c d T) (zQ_Tok h))), (zLea_kc rfl (p_G202 a c d S) (zLea_km rfl (p_G289 a c d T) (zQ_Lea h))), (zLT_kc rfl (p_G202 a c d S) (zLT_km rfl (p_G289 a c d T) (zQ_LT h))), (zSto_kc rfl (p_G202 a c d S) (zSto_km rfl (p_G289 a c d T) (zQ_Sto h))), (zFar_kc rfl (p_G202 a c d S) (zFar_km rfl (p_G289 a c d T) (zQ_Far h))), (zLog_kc rfl (p_G202 a c d S) (zLog_km rfl (p_G289 a c d T) (zQ_Log h))), (zWra_kc rfl (p_G202 a c d S) (zWra_km rfl (p_G289 a c d T) (zQ_Wra h))), key.2.1, (zCer_kc rfl (p_G202 a c d S) (zCer_km rfl (p_G289 a c d T) (zQ_Cer h))), (zSin_kc rfl (p_G202 a c d S) (zSin_km rfl (p_G289 a c d T) (zQ_Sin h)))⟩, key.2.2⟩
/-- a request: admission, its own part, conclusion -/
theorem zreq {n m : Nat} {S T GS GT : zS} {FS FT : Int32} (h : zR n S T) (hm : ∀ {A B : zS}, zQ n A B → zQ m A B) (a b c d k : Int32) (hc : zx 216 c) (hk : (if (d.toInt = 2) then (1 : Int32) else (if (d.toInt = 4) then (2 : Int32) else (if (d.toInt = 8) then (3 : Int32) else 0))) = k) (ho : zQ n (G196 a b c d S) (G282 a b c d T) → 0 ≤ a.toInt → a.toInt < ((G282 a b c d T) 13 45).toInt → (G282 a b c d T) 119 a.toNatClampNeg = 0 → FT = FS ∧ zQ m GS GT ∧ ¬ FS = -2 ∧ ¬ FS = -3) (h13 : GT 13 45 = (G282 a b c d T) 13 45) (h119 : GT 119 = (G282 a b c d T) 119) (h117 : GT 117 = (G282 a b c d T) 117) :
    (if (0 ≤ F282 a b c d T) then (FT : Int32) else F282 a b c d T) = (if (F196 a b c d S = 0) then (FS : Int32) else F196 a b c d S) ∧ zR m (G197 a c d (if (F196 a b c d S = 0) then (FS : Int32) else F196 a b c d S) (if (F196 a b c d S = 0) then GS else G196 a b c d S)) (G283 a c k (if (0 ≤ F282 a b c d T) then (FT : Int32) else F282 a b c d T) (if (0 ≤ F282 a b c d T) then GT else G282 a b c d T)) := by
  obtain ⟨z1, z2, z3, z4, z5, z6⟩ := zadm h a b c d hc
  rw [z1]
  by_cases c0 : F196 a b c d S = 0
  · have c1 : (0 : Int32) ≤ F196 a b c d S := by rw [c0]; decide
    simp only [if_pos c0, if_pos c1]
    obtain ⟨q1, q2, q3⟩ := z6 c0
    obtain ⟨w1, w2, w3, w4⟩ := ho z2 q1 (by rw [(p_G282 a b c d T).2 13 45 rfl rfl]; exact q2) q3
    rw [w1]
    refine ⟨rfl, zcon w2 a c d FS k hk ?_ (fun e => ?_)⟩
    · intro j hj e1 e2
      exact z3 j (by rw [← h13]; exact hj) (by rw [← h119]; exact e1) (by rw [← h117]; exact e2)
    · rcases e with e | e
      · exact absurd e w3
      · exact absurd e w4
  · have c1 : ¬ (0 : Int32) ≤ F196 a b c d S := z4.resolve_left c0
    simp only [if_neg c0, if_neg c1]
    exact ⟨trivial, zcon (hm z2) a c d _ k hk z3 z5⟩
