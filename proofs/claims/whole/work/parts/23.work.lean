/-! the own parts of requests: reading, cases (wip/whole/gen/gen84.py) -/
theorem z107 {S T : zS} (e51 : S 51 = T 88) (b c : Int32) (hb : zx 216 b) : F107 b c S = (if ((¬ ((if (c = 0) then ((T 88 b.toNatClampNeg) : Int32) else c) < 1)) ∧ ((¬ ((T 88 b.toNatClampNeg) < (if (c = 0) then ((T 88 b.toNatClampNeg) : Int32) else c))) ∧ (¬ ((if (c = 0) then ((T 88 b.toNatClampNeg) : Int32) else c) ≤ ((T 88 b.toNatClampNeg) - 4))))) then ((4 * b) + (zrem (if (c = 0) then ((T 88 b.toNatClampNeg) : Int32) else c) 4)) else (-1)) ∧ (((¬ ((if (c = 0) then ((T 88 b.toNatClampNeg) : Int32) else c) < 1)) ∧ ((¬ ((T 88 b.toNatClampNeg) < (if (c = 0) then ((T 88 b.toNatClampNeg) : Int32) else c))) ∧ (¬ ((if (c = 0) then ((T 88 b.toNatClampNeg) : Int32) else c) ≤ ((T 88 b.toNatClampNeg) - 4))))) → zx 864 ((4 * b) + (zrem (if (c = 0) then ((T 88 b.toNatClampNeg) : Int32) else c) 4)) ∧ 1 ≤ (if (c = 0) then ((T 88 b.toNatClampNeg) : Int32) else c).toInt) := by
  unfold F107
  rw [e51]
  generalize (if (c = 0) then ((T 88 b.toNatClampNeg) : Int32) else c) = v
  have hv0 : (¬ v < 1) → 1 ≤ v.toInt := fun g => by rw [zk_lt, zlt_1] at g; omega
  refine ⟨?_, fun g => ⟨zx_slot' hb (zn_rem4 (by have := hv0 g.1; omega)), hv0 g.1⟩⟩
  by_cases g : ((¬ (v < 1)) ∧ ((¬ ((T 88 b.toNatClampNeg) < v)) ∧ (¬ (v ≤ ((T 88 b.toNatClampNeg) - 4)))))
  · rw [if_pos g, if_pos g, zfm_4 S (by have := hv0 g.1; omega), Int32.mul_comm]
  · rw [if_neg g, if_neg g]
theorem zx_m1 {n : Nat} {x : Int32} (h : zx n x) : ¬ x = -1 := by
  intro e
  rw [e, zx_iff] at h
  exact absurd h.1 (by decide)
theorem zn_m {n : Nat} {x c : Int32} (h : zn n x) (hc : c.toInt < 0) : ¬ x = c := by
  intro e
  rw [e] at h
  unfold zn at h
  omega
theorem z288 {n : Nat} {S T : zS} (h : zQ n S T) (b c : Int32) (hb : zx 216 b) : F288 b c T = (if ((S 16 (b / 36).toNatClampNeg) = 0) then ((F110 b c (S 2 3) S) : Int32) else (-13)) ∧ ¬ F288 b c T = -2 ∧ ¬ F288 b c T = -3 := by
  have hS := zQ_Sto h
  obtain ⟨e51, e53, e54, e52, hv, hnum, hst⟩ := hS
  unfold F288 F110
  rw [(zQ_Eng h).1, (zQ_Key h).2.2.2.1]
  by_cases c0 : T 84 (b / 36).toNatClampNeg = 0
  · rw [if_pos c0, if_pos c0]
    obtain ⟨k1, k2⟩ := z107 e51 b c hb
    generalize (if (c = 0) then ((T 88 b.toNatClampNeg) : Int32) else c) = v at k1 k2 ⊢
    by_cases g : ((¬ (v < 1)) ∧ ((¬ ((T 88 b.toNatClampNeg) < v)) ∧ (¬ (v ≤ ((T 88 b.toNatClampNeg) - 4)))))
    · rw [if_pos g] at k1 ⊢
      rw [k1, if_neg (zx_m1 (k2 g).1), e54, e53]
      by_cases c1 : T 91 ((4 * b) + (zrem v 4)).toNatClampNeg = 0
      · rw [if_pos c1, if_pos c1, e52 _ (by rw [c1]; decide)]
        refine ⟨rfl, ?_, ?_⟩
        · split
          · exact zn_m (hnum _) (by decide)
          · decide
        · split
          · exact zn_m (hnum _) (by decide)
          · decide
      · rw [if_neg c1, if_neg c1]
        exact ⟨rfl, by decide, by decide⟩
    · rw [if_neg g] at k1 ⊢
      rw [k1, if_pos rfl]
      exact ⟨rfl, by decide, by decide⟩
  · rw [if_neg c0, if_neg c0]
    exact ⟨rfl, by decide, by decide⟩
theorem zri {n : Nat} {S T : zS} (h : zQ n S T) (a c : Int32) : F257 a c T = F64 (S 33 a.toNatClampNeg) (S 32 a.toNatClampNeg) c S := by
  have hT := zQ_Tok h
  exact zrights (zQ_Rul h) (zQ_Ppl h) hT.2.2.2.1 hT.2.2.2.2.1 a c (hT.2.2.2.2.2.2.2.2.2.2.2.2.2.2.1 a.toNatClampNeg)
theorem zCas_p {S T : zS} (h : zCas S T) (a c d w : Int32) (hlt : T 13 72 < 20) (ha : 0 ≤ a.toInt ∧ a.toInt < (T 13 45).toInt) (hc : zx 216 c) (hd : zn 9999 d) : zCas (z_up (z_up (z_up (z_up (z_up S 66 (T 13 72).toNatClampNeg a) 67 (T 13 72).toNatClampNeg c) 68 (T 13 72).toNatClampNeg d) 69 (T 13 72).toNatClampNeg w) 10 4 ((T 13 72) + 1)) (z_up (z_up (z_up (z_up (z_up (z_up (z_up T 133 (T 13 72).toNatClampNeg a) 134 (T 13 72).toNatClampNeg c) 135 (T 13 72).toNatClampNeg d) 136 (T 13 72).toNatClampNeg w) 137 (T 13 72).toNatClampNeg 0) 138 (T 13 72).toNatClampNeg 0) 13 72 ((T 13 72) + 1)) := by
  unfold zCas at h ⊢
  obtain ⟨h0, h1, h2, h3, h4, h5, h6, h7, h8, h9, h10, h11, h12, h13⟩ := h
  have u7 : upd (T 137) (T 13 72).toNatClampNeg 0 = T 137 := zupd_s _ _ _ (h8 _ (Nat.le_refl _)).1
  have u8 : upd (T 138) (T 13 72).toNatClampNeg 0 = T 138 := zupd_s _ _ _ (h8 _ (Nat.le_refl _)).2
  rw [zk_lt, zlt_20] at hlt
  have e1 : (T 13 72 + 1).toInt = (T 13 72).toInt + 1 := by
    unfold zn at h7
    rw [zk_tadd (by rw [zk_1]; omega) (by rw [zk_1]; omega), zk_1]
  have e2 := zk_nat h7.1
  have e3 := zk_nat (x := T 13 72 + 1) (by have := h7.1; omega)
  simp only [zup2, zup1, h0, h1, h2, h3, h4, h5, h6, u7, u8, not_false_eq_true, not_true_eq_false, Nat.reduceEqDiff, reduceIte, true_and, and_true, ite_true, ite_false]
  refine ⟨?_, ?_, ?_, ?_, ?_, ?_, ?_⟩
  · have := h7.1; unfold zn; omega
  · intro j hj
    rw [if_neg (by omega), if_neg (by omega)]
    exact h8 j (by omega)
  · intro j hj
    by_cases ej : j = (T 13 72).toNatClampNeg
    · rw [if_pos ej]; exact ha
    · rw [if_neg ej]; exact h9 j (by omega)
  · intro j hj
    rw [upd_r]
    split
    · exact hc
    · exact h10 j hj
  · intro j hj
    split
    · exact hd
    · exact h11 j hj
  · intro j hj
    split
    · unfold zn; decide
    · exact h12 j hj
  · intro j hj
    split
    · exact Or.inl rfl
    · exact h13 j hj
theorem zrd {n : Nat} {S T : zS} (h : zQ n S T) (a c d : Int32) (hc : zx 216 c) (hd : zn 9999 d) (ha : 0 ≤ a.toInt ∧ a.toInt < (T 13 45).toInt) : F289 a c d T = F202 a c d S ∧ zQ n (G202 a c d S) (G289 a c d T) ∧ ¬ F202 a c d S = -2 ∧ ¬ F202 a c d S = -3 := by
  obtain ⟨k1, k2, k3⟩ := z288 h c d hc
  have hri := zri h a c
  have hC := zQ_Cas h
  have e10 : S 10 4 = T 13 72 := hC.1
  have e20 := zeq_top hC.2.2.2.2.2.2.2.1 zlt_20
  have key : F289 a c d T = F202 a c d S ∧ zCas (G202 a c d S) (G289 a c d T) ∧ ¬ F202 a c d S = -2 ∧ ¬ F202 a c d S = -3 := by
    unfold F289 F202 G202 G289 G32
    rw [← k1, ← hri, e10]
    simp only [e20]
    generalize F288 c d T = v at k2 k3 ⊢
    generalize F257 a c T = w
    by_cases c0 : v < 0
    · simp only [if_pos c0]; exact ⟨trivial, hC, k2, k3⟩
    by_cases c1 : w / 16 = 0
    · simp only [if_neg c0, if_pos c1]; exact ⟨trivial, hC, k2, k3⟩
    by_cases c2 : T 13 72 < 20
    · simp only [if_neg c0, if_neg c1, if_pos c2, not_true_eq_false, not_false_eq_true, c2, if_false, if_true]
      exact ⟨trivial, zCas_p hC a c d _ c2 ha hc hd, by decide, by decide⟩
    · simp only [if_neg c0, if_neg c1, if_neg c2, not_true_eq_false, not_false_eq_true, c2, if_false, if_true]
      exact ⟨trivial, hC, by decide, by decide⟩
  exact ⟨key.1, ⟨(zSeal_kc rfl (p_G202 a c d S) (zSeal_km rfl (p_G289 a c d T) (zQ_Seal h))), (zKey_kc rfl (p_G202 a c d S) (zKey_km rfl (p_G289 a c d T) (zQ_Key h))), (zEng_kc rfl (p_G202 a c d S) (zEng_km rfl (p_G289 a c d T) (zQ_Eng h))), (zRul_kc rfl (p_G202 a c d S) (zRul_km rfl (p_G289 a c d T) (zQ_Rul h))), (zPpl_kc rfl (p_G202 a c d S) (zPpl_km rfl (p_G289 a c d T) (zQ_Ppl h))), (zTok_kc rfl (p_G202 a c d S) (zTok_km rfl (p_G289 a c d T) (zQ_Tok h))), (zLea_kc rfl (p_G202 a c d S) (zLea_km rfl (p_G289 a c d T) (zQ_Lea h))), (zLT_kc rfl (p_G202 a c d S) (zLT_km rfl (p_G289 a c d T) (zQ_LT h))), (zSto_kc rfl (p_G202 a c d S) (zSto_km rfl (p_G289 a c d T) (zQ_Sto h))), (zFar_kc rfl (p_G202 a c d S) (zFar_km rfl (p_G289 a c d T) (zQ_Far h))), (zLog_kc rfl (p_G202 a c d S) (zLog_km rfl (p_G289 a c d T) (zQ_Log h))), (zWra_kc rfl (p_G202 a c d S) (zWra_km rfl (p_G289 a c d T) (zQ_Wra h))), key.2.1, (zCer_kc rfl (p_G202 a c d S) (zCer_km rfl (p_G289 a c d T) (zQ_Cer h))), (zSin_kc rfl (p_G202 a c d S) (zSin_km rfl (p_G289 a c d T) (zQ_Sin h)))⟩, key.2.2⟩
/-- a request: admission, its own part, conclusion -/
theorem zreq {n m : Nat} {S T GS GT : zS} {FS FT : Int32} (h : zR n S T) (hm : ∀ {A B : zS}, zQ n A B → zQ m A B) (a b c d k : Int32) (hc : zx 216 c) (hk : (if (d.toInt = 2) then (1 : Int32) else (if (d.toInt = 4) then (2 : Int32) else (if (d.toInt = 8) then (3 : Int32) else 0))) = k) (ho : zQ n (G196 a b c d S) (G282 a b c d T) → 0 ≤ a.toInt → a.toInt < ((G282 a b c d T) 13 45).toInt → (G282 a b c d T) 119 a.toNatClampNeg = 0 → FT = FS ∧ zQ m GS GT ∧ ¬ FS = -2 ∧ ¬ FS = -3) (h13 : GT 13 45 = (G282 a b c d T) 13 45) (h119 : GT 119 = (G282 a b c d T) 119) (h117 : GT 117 = (G282 a b c d T) 117) :
    (if (0 ≤ F282 a b c d T) then (FT : Int32) else F282 a b c d T) = (if (F196 a b c d S = 0) then (FS : Int32) else F196 a b c d S) ∧ zR m (G197 a c d (if (F196 a b c d S = 0) then (FS : Int32) else F196 a b c d S) (if (F196 a b c d S = 0) then GS else G196 a b c d S)) (G283 a c k (if (0 ≤ F282 a b c d T) then (FT : Int32) else F282 a b c d T) (if (0 ≤ F282 a b c d T) then GT else G282 a b c d T)) := by
  obtain ⟨z1, z2, z3, z4, z5, z6⟩ := zadm h a b c d hc
  rw [z1]
  by_cases c0 : F196 a b c d S = 0
  · have c1 : (0 : Int32) ≤ F196 a b c d S := by rw [c0]; decide
    simp only [if_pos c0, if_pos c1]
    obtain ⟨q1, q2, q3⟩ := z6 c0
    obtain ⟨w1, w2, w3, w4⟩ := ho z2 q1 (by rw [(p_G282 a b c d T).2 13 45 rfl rfl]; exact q2) q3
    rw [w1]
    refine ⟨rfl, zcon w2 a c d FS k hk ?_ (fun e => ?_)⟩
    · intro j hj e1 e2
      exact z3 j (by rw [← h13]; exact hj) (by rw [← h119]; exact e1) (by rw [← h117]; exact e2)
    · rcases e with e | e
      · exact absurd e w3
      · exact absurd e w4
  · have c1 : ¬ (0 : Int32) ≤ F196 a b c d S := z4.resolve_left c0
    simp only [if_neg c0, if_neg c1]
    exact ⟨trivial, zcon (hm z2) a c d _ k hk z3 z5⟩
/-! the own parts of requests: credentials, certificates (wip/whole/gen/gen85.py) -/
theorem zx_d36 {b : Int32} (h : zx 216 b) : zx 6 (b / 36) := by
  rw [zx_iff] at h ⊢
  have e := zdiv_ti (x := b) (y := 36) (by decide) h.1
  rw [show (36 : Int32).toInt = 36 from rfl] at e
  omega
theorem zLea_cr {S T : zS} (h : zLea S T) (i : Nat) (x y : Int32) : zLea (z_up (z_up S 49 i x) 50 i y) (z_up (z_up T 128 i x) 129 i y) := by
  unfold zLea at h ⊢
  obtain ⟨k0, k1, k2, k3, k4, k5, k6, k7, k8, k9, k10, k11, k12, k13, k14, k15, k16, k17, k18⟩ := h
  simp only [zup2, zup1, k0, k1, k2, k3, k4, k5, k6, k7, k8, k9, k10, not_false_eq_true, not_true_eq_false, Nat.reduceEqDiff, reduceIte, true_and, and_true, ite_true, ite_false]
  exact ⟨k11, k12, k13, k14, k15, k16, k17, k18⟩
theorem zLea_p {S T : zS} (h : zLea S T) (a b c e l : Int32) (hlt : T 13 57 < 40) (ha : zx 40 a) (hb : zx 216 b) (hc : zx 3 c) : zLea (z_up (z_up (z_up (z_up (z_up (z_up (z_up (z_up S 41 (T 13 57).toNatClampNeg a) 42 (T 13 57).toNatClampNeg b) 43 (T 13 57).toNatClampNeg c) 46 (T 13 57).toNatClampNeg 0) 47 (T 13 57).toNatClampNeg 0) 6 0 ((T 13 57) + 1)) 44 (T 13 57).toNatClampNeg e) 45 (T 13 57).toNatClampNeg l) (z_up (z_up (z_up (z_up (z_up (z_up (z_up T 120 (T 13 57).toNatClampNeg a) 121 (T 13 57).toNatClampNeg b) 122 (T 13 57).toNatClampNeg c) 124 (T 13 57).toNatClampNeg l) 123 (T 13 57).toNatClampNeg e) 125 (T 13 57).toNatClampNeg 0) 13 57 ((T 13 57) + 1)) := by
  unfold zLea at h ⊢
  obtain ⟨k0, k1, k2, k3, k4, k5, k6, k7, k8, k9, k10, k11, k12, k13, k14, k15, k16, k17, k18⟩ := h
  have u : upd (T 126) (T 13 57).toNatClampNeg 0 = T 126 := zupd_s _ _ _ (k18 _ (Nat.le_refl _))
  have u0 := k18 _ (Nat.le_refl _)
  rw [zk_lt, zlt_40] at hlt
  have e1 : (T 13 57 + 1).toInt = (T 13 57).toInt + 1 := by
    unfold zn at k11
    rw [zk_tadd (by rw [zk_1]; omega) (by rw [zk_1]; omega), zk_1]
  have e2 := zk_nat k11.1
  have e3 := zk_nat (x := T 13 57 + 1) (by have := k11.1; omega)
  simp only [zup2, zup1, k0, k1, k2, k3, k4, k5, k6, k7, k8, k9, k10, u, not_false_eq_true, not_true_eq_false, Nat.reduceEqDiff, reduceIte, true_and, and_true, ite_true, ite_false]
  refine ⟨?_, ?_, ?_, ?_, ?_, ?_, k17, ?_⟩
  · have := k11.1; unfold zn; omega
  · intro j hj
    rw [upd_r]
    split
    · exact ha
    · exact k12 j hj
  · intro j hj
    rw [upd_r]
    split
    · exact hb
    · exact k13 j hj
  · intro j hj
    rw [upd_r]
    split
    · exact hc
    · exact k14 j hj
  · intro j
    split
    · rename_i ej; rw [ej]; exact fun _ => u0
    · exact k15 j
  · intro j
    split
    · intro e9; exact absurd e9 (by decide)
    · exact k16 j
  · intro j hj
    exact k18 j (by omega)
theorem zis {n : Nat} {S T : zS} (h : zQ n S T) (a b c d : Int32) (hb : zx 216 b) (ha : 0 ≤ a.toInt) (hlt : a.toInt < (T 13 45).toInt) (hal : T 119 a.toNatClampNeg = 0) : F296 a b c d T = F205 a b c d S ∧ zQ n (G205 a b c d S) (G296 a b c d T) ∧ ¬ F205 a b c d S = -2 ∧ ¬ F205 a b c d S = -3 := by
  have hL := zQ_Lea h
  have hT := zQ_Tok h
  have hE := zQ_Eng h
  have hLT := zQ_LT h
  have e6 : S 6 0 = T 13 57 := hL.1
  have s48 : S 48 = T 127 := hL.2.2.2.2.2.2.2.2.1
  have s49 : S 49 = T 128 := hL.2.2.2.2.2.2.2.2.2.1
  have s50 : S 50 = T 129 := hL.2.2.2.2.2.2.2.2.2.2.1
  have hn := hL.2.2.2.2.2.2.2.2.2.2.2.1
  have s34 : S 34 = T 113 := hT.2.2.2.2.2.1
  have s11 : S 0 11 = T 13 1 := (zQ_Key h).2.2.2.2.2.2.1
  have hx6 := zx_d36 hb
  have hx6' := zk_nat ((zx_iff.mp hx6).1)
  have hsys : zx 3 (T 85 (b / 36).toNatClampNeg) := hE.2.2.2.2 _ (by have := (zx_iff.mp hx6).2; omega)
  have hway := hL.2.2.2.2.2.2.2.2.2.2.2.2.2.2.2.2.2.1 (T 85 (b / 36).toNatClampNeg).toNatClampNeg (by have := zx_iff.mp hsys; have := zk_nat this.1; omega)
  have hax : zx 40 a := by rw [zx_iff]; have := hT.2.2.2.2.2.2.2.2.2.2.1.2; omega
  have e40 := zeq_top hn zlt_40
  have key : F296 a b c d T = F205 a b c d S ∧ zLea (G205 a b c d S) (G296 a b c d T) ∧ zLT (G205 a b c d S) (G296 a b c d T) ∧ ¬ F205 a b c d S = -2 ∧ ¬ F205 a b c d S = -3 := by
    unfold F296 F205 G205 G296
    rw [hE.1, hE.2.1, e6]
    simp only [e40]
    by_cases c0 : T 84 (b / 36).toNatClampNeg = 1
    rotate_left
    · simp only [if_neg c0]; exact ⟨trivial, hL, hLT, by decide, by decide⟩
    by_cases c1 : T 13 57 < 40
    rotate_left
    · simp only [if_pos c0, c1, not_false_eq_true, if_true]; exact ⟨trivial, hL, hLT, by decide, by decide⟩
    simp only [if_pos c0, c1, not_true_eq_false, if_false]
    generalize hs : T 85 (b / 36).toNatClampNeg = s at *
    rw [s48]
    have eG : G49 s S = z_up (z_up S 49 s.toNatClampNeg ((T 128 s.toNatClampNeg) + (zb (¬ ((T 127 s.toNatClampNeg) = 1))))) 50 s.toNatClampNeg ((T 129 s.toNatClampNeg) + (zb ((T 127 s.toNatClampNeg) = 2))) := by
      unfold G49
      rw [s48]
      by_cases w1 : T 127 s.toNatClampNeg = 1
      · rw [if_pos w1, (show zb (¬ ((T 127 s.toNatClampNeg) = 1)) = 0 from if_neg (fun q => q w1)), (show zb ((T 127 s.toNatClampNeg) = 2) = 0 from if_neg (by rw [w1]; decide)), Int32.add_zero, Int32.add_zero, zup_id S 49 _ _ (congrFun s49 _), zup_id S 50 _ _ (congrFun s50 _)]
      · rw [if_neg w1, (show zb (¬ ((T 127 s.toNatClampNeg) = 1)) = 1 from if_pos w1)]
        by_cases w2 : T 127 s.toNatClampNeg = 2
        · rw [if_pos w2, (show zb ((T 127 s.toNatClampNeg) = 2) = 1 from if_pos w2), s49, s50]
        · rw [if_neg w2, (show zb ((T 127 s.toNatClampNeg) = 2) = 0 from if_neg w2), Int32.add_zero, s49]
          exact (zup_id _ 50 _ _ ((zupci rfl).trans (congrFun s50 _))).symm
    have hL1 := zLea_cr hL s.toNatClampNeg ((T 128 s.toNatClampNeg) + (zb (¬ ((T 127 s.toNatClampNeg) = 1)))) ((T 129 s.toNatClampNeg) + (zb ((T 127 s.toNatClampNeg) = 2)))
    rw [eG]
    by_cases w0 : T 127 s.toNatClampNeg = 0
    · have w12 : ((¬ ((T 127 s.toNatClampNeg) = 1)) ∧ (¬ ((T 127 s.toNatClampNeg) = 2))) := by rw [w0]; exact ⟨by decide, by decide⟩
      simp only [if_pos w0, if_pos w12]
      unfold G50
      have q6 : (z_up (z_up S 49 s.toNatClampNeg ((T 128 s.toNatClampNeg) + (zb (¬ ((T 127 s.toNatClampNeg) = 1))))) 50 s.toNatClampNeg ((T 129 s.toNatClampNeg) + (zb ((T 127 s.toNatClampNeg) = 2)))) 6 0 = T 13 57 := (zupci rfl).trans ((zupci rfl).trans e6)
      have q57 : (z_up (z_up T 128 s.toNatClampNeg ((T 128 s.toNatClampNeg) + (zb (¬ ((T 127 s.toNatClampNeg) = 1))))) 129 s.toNatClampNeg ((T 129 s.toNatClampNeg) + (zb ((T 127 s.toNatClampNeg) = 2)))) 13 57 = T 13 57 := (zupci rfl).trans (zupci rfl)
      have q11 : (z_up (z_up S 49 s.toNatClampNeg ((T 128 s.toNatClampNeg) + (zb (¬ ((T 127 s.toNatClampNeg) = 1))))) 50 s.toNatClampNeg ((T 129 s.toNatClampNeg) + (zb ((T 127 s.toNatClampNeg) = 2)))) 0 11 = T 13 1 := (zupci rfl).trans ((zupci rfl).trans s11)
      have q34 : (z_up (z_up S 49 s.toNatClampNeg ((T 128 s.toNatClampNeg) + (zb (¬ ((T 127 s.toNatClampNeg) = 1))))) 50 s.toNatClampNeg ((T 129 s.toNatClampNeg) + (zb ((T 127 s.toNatClampNeg) = 2)))) 34 a.toNatClampNeg = T 113 a.toNatClampNeg := (zupci rfl).trans ((zupci rfl).trans (congrFun s34 _))
      have t119 : (z_up (z_up T 128 s.toNatClampNeg ((T 128 s.toNatClampNeg) + (zb (¬ ((T 127 s.toNatClampNeg) = 1))))) 129 s.toNatClampNeg ((T 129 s.toNatClampNeg) + (zb ((T 127 s.toNatClampNeg) = 2)))) 119 = T 119 := (zupc rfl).trans (zupc rfl)
      have t45 : (z_up (z_up T 128 s.toNatClampNeg ((T 128 s.toNatClampNeg) + (zb (¬ ((T 127 s.toNatClampNeg) = 1))))) 129 s.toNatClampNeg ((T 129 s.toNatClampNeg) + (zb ((T 127 s.toNatClampNeg) = 2)))) 13 45 = T 13 45 := (zupci rfl).trans (zupci rfl)
      have t120 : (z_up (z_up T 128 s.toNatClampNeg ((T 128 s.toNatClampNeg) + (zb (¬ ((T 127 s.toNatClampNeg) = 1))))) 129 s.toNatClampNeg ((T 129 s.toNatClampNeg) + (zb ((T 127 s.toNatClampNeg) = 2)))) 120 = T 120 := (zupc rfl).trans (zupc rfl)
      have t125 : (z_up (z_up T 128 s.toNatClampNeg ((T 128 s.toNatClampNeg) + (zb (¬ ((T 127 s.toNatClampNeg) = 1))))) 129 s.toNatClampNeg ((T 129 s.toNatClampNeg) + (zb ((T 127 s.toNatClampNeg) = 2)))) 125 = T 125 := (zupc rfl).trans (zupc rfl)
      generalize z_up (z_up S 49 s.toNatClampNeg ((T 128 s.toNatClampNeg) + (zb (¬ ((T 127 s.toNatClampNeg) = 1))))) 50 s.toNatClampNeg ((T 129 s.toNatClampNeg) + (zb ((T 127 s.toNatClampNeg) = 2))) = S1 at *
      generalize z_up (z_up T 128 s.toNatClampNeg ((T 128 s.toNatClampNeg) + (zb (¬ ((T 127 s.toNatClampNeg) = 1))))) 129 s.toNatClampNeg ((T 129 s.toNatClampNeg) + (zb ((T 127 s.toNatClampNeg) = 2))) = T1 at *
      have r11 : (z_up (z_up (z_up (z_up (z_up (z_up S1 41 (S1 6 0).toNatClampNeg a) 42 (S1 6 0).toNatClampNeg b) 43 (S1 6 0).toNatClampNeg s) 46 (S1 6 0).toNatClampNeg 0) 47 (S1 6 0).toNatClampNeg 0) 6 0 ((S1 6 0) + 1)) 0 11 = T 13 1 := by simp only [zup2, q11, Nat.reduceEqDiff, reduceIte, ite_false]
      have r34 : (z_up (z_up (z_up (z_up (z_up (z_up S1 41 (S1 6 0).toNatClampNeg a) 42 (S1 6 0).toNatClampNeg b) 43 (S1 6 0).toNatClampNeg s) 46 (S1 6 0).toNatClampNeg 0) 47 (S1 6 0).toNatClampNeg 0) 6 0 ((S1 6 0) + 1)) 34 a.toNatClampNeg = T 113 a.toNatClampNeg := by simp only [zup2, q34, Nat.reduceEqDiff, reduceIte, ite_false]
      rw [r11, r34, q6, zmin_i]
      have hLp := zLea_p hL1 a b s (if ((T 113 a.toNatClampNeg) ≤ ((T 13 1) + c)) then ((T 113 a.toNatClampNeg) : Int32) else ((T 13 1) + c)) ((T 13 1) + d) (by rw [q57]; exact c1) hax hb hsys
      rw [q57] at hLp
      refine ⟨Int32.add_sub_cancel _ _, hLp, ?_, zn_m hn (by decide), zn_m hn (by decide)⟩
      have hc1 := c1
      rw [zk_lt, zlt_40] at hc1
      have g1 : (T 13 57 + 1).toInt = (T 13 57).toInt + 1 := by
        have := hn.1
        rw [zk_tadd (by rw [zk_1]; omega) (by rw [zk_1]; omega), zk_1]
      have g2 := zk_nat hn.1
      have g3 := zk_nat (x := T 13 57 + 1) (by have := hn.1; omega)
      unfold zLT
      simp only [zup2, zup1, t119, t120, t125, t45, Nat.reduceEqDiff, reduceIte, ite_true, ite_false, upd_r]
      intro j hj
      by_cases ej : j = (T 13 57).toNatClampNeg
      · rw [if_pos ej, if_pos ej]; exact fun _ => ⟨hal, hlt⟩
      · rw [if_neg ej, if_neg ej]; exact hLT j (by omega)
    · have w12 : ¬ ((¬ ((T 127 s.toNatClampNeg) = 1)) ∧ (¬ ((T 127 s.toNatClampNeg) = 2))) := by
        rintro ⟨g1, g2⟩
        unfold zn at hway
        have k0 : (T 127 s.toNatClampNeg).toInt ≠ 0 := fun q => w0 (zk_eq.mpr q)
        have k1 : (T 127 s.toNatClampNeg).toInt ≠ 1 := fun q => g1 (zk_eq.mpr q)
        have k2 : (T 127 s.toNatClampNeg).toInt ≠ 2 := fun q => g2 (zk_eq.mpr q)
        omega
      simp only [if_neg w0, if_neg w12]
      refine ⟨trivial, hL1, ?_, by decide, by decide⟩
      unfold zLT
      simp only [zup2, zup1, Nat.reduceEqDiff, reduceIte, ite_true, ite_false]
      exact hLT
  exact ⟨key.1, ⟨(zSeal_kc rfl (p_G205 a b c d S) (zSeal_km rfl (p_G296 a b c d T) (zQ_Seal h))), (zKey_kc rfl (p_G205 a b c d S) (zKey_km rfl (p_G296 a b c d T) (zQ_Key h))), (zEng_kc rfl (p_G205 a b c d S) (zEng_km rfl (p_G296 a b c d T) (zQ_Eng h))), (zRul_kc rfl (p_G205 a b c d S) (zRul_km rfl (p_G296 a b c d T) (zQ_Rul h))), (zPpl_kc rfl (p_G205 a b c d S) (zPpl_km rfl (p_G296 a b c d T) (zQ_Ppl h))), (zTok_kc rfl (p_G205 a b c d S) (zTok_km rfl (p_G296 a b c d T) (zQ_Tok h))), key.2.1, key.2.2.1, (zSto_kc rfl (p_G205 a b c d S) (zSto_km rfl (p_G296 a b c d T) (zQ_Sto h))), (zFar_kc rfl (p_G205 a b c d S) (zFar_km rfl (p_G296 a b c d T) (zQ_Far h))), (zLog_kc rfl (p_G205 a b c d S) (zLog_km rfl (p_G296 a b c d T) (zQ_Log h))), (zWra_kc rfl (p_G205 a b c d S) (zWra_km rfl (p_G296 a b c d T) (zQ_Wra h))), (zCas_kc rfl (p_G205 a b c d S) (zCas_km rfl (p_G296 a b c d T) (zQ_Cas h))), (zCer_kc rfl (p_G205 a b c d S) (zCer_km rfl (p_G296 a b c d T) (zQ_Cer h))), (zSin_kc rfl (p_G205 a b c d S) (zSin_km rfl (p_G296 a b c d T) (zQ_Sin h)))⟩, key.2.2.2⟩
/-- certificates -/
theorem z7 {S T : zS} (h : zCer S T) (c : Int32) : F7 c (T 13 1) S = F308 c T := by
  obtain ⟨-, -, e73, e74, -, e76, -⟩ := h
  unfold F7 F308
  rw [e73, e74, e76]
  unfold zb
  by_cases c0 : T 141 c.toNatClampNeg ≤ T 13 1
  · rw [if_pos c0, if_neg (fun q => q.1 c0)]
  by_cases c1 : T 143 c.toNatClampNeg = 0
  rotate_left
  · rw [if_neg c0, if_neg c1, if_neg (fun q => c1 q.2.1)]
  rw [if_neg c0, if_pos c1]
  by_cases c2 : T 139 c.toNatClampNeg = c
  · rw [if_pos c2, c2, if_pos ⟨c0, c1, c0, c1⟩]
  rw [if_neg c2]
  by_cases c3 : T 141 (T 139 c.toNatClampNeg).toNatClampNeg ≤ T 13 1
  · rw [if_pos c3, if_neg (fun q => q.2.2.1 c3)]
  rw [if_neg c3]
  by_cases c4 : T 143 (T 139 c.toNatClampNeg).toNatClampNeg = 0
  · rw [if_pos c4, if_pos ⟨c0, c1, c3, c4⟩]
  · rw [if_neg c4, if_neg (fun q => c4 q.2.2.2)]
/-- who issues -/
theorem z3by {S T : zS} (h : zCer S T) (a b : Int32) : (F3 a S = -1 ∧ K309_20_c3 a b (T 13 79) 0 T = T 13 79) ∨ ∃ i, i < (T 13 79).toNatClampNeg ∧ F3 a S = Int32.ofNat i ∧ K309_20_c3 a b (T 13 79) 0 T = Int32.ofNat i ∧ T 140 i = a - zrem a 6 ∧ ¬ zrem a 6 = 0 := by
  obtain ⟨e11, e72, -⟩ := h
  unfold F3 K309_20_c3 K309_20
  by_cases c0 : zrem a 6 = 0
  · rw [if_pos c0, if_pos c0]; exact Or.inl ⟨rfl, rfl⟩
  rw [if_neg c0, if_neg c0, e72, e11]
  have key := zfold_sim (f := fun j b => if T 140 j = a - zrem a 6 then Int32.ofNat j else b) (g := k309_20 a b T) (i := 0) (n := (T 13 79).toNatClampNeg) (a := (-1 : Int32)) (b := T 13 79) (I := fun j x y => (x = -1 ∧ y = T 13 79) ∨ ∃ i, i < j ∧ x = Int32.ofNat i ∧ y = Int32.ofNat i ∧ T 140 i = a - zrem a 6) (Or.inl ⟨rfl, rfl⟩) (fun j x y hj hI => by
    rw [Nat.zero_add]
    unfold k309_20
    by_cases c1 : T 140 j = a - zrem a 6
    · rw [if_pos c1, if_pos c1]; exact Or.inr ⟨j, Nat.lt_succ_self j, rfl, rfl, c1⟩
    · rw [if_neg c1, if_neg c1]
      rcases hI with hI | ⟨i, h1, h2⟩
      · exact Or.inl hI
      · exact Or.inr ⟨i, by omega, h2⟩)
  rw [Nat.sub_zero]
  rcases key with key | ⟨i, h1, h2, h3, h4⟩
  · exact Or.inl key
  · exact Or.inr ⟨i, h1, h2, h3, h4, c0⟩
theorem zrem_6 {a : Int32} (h : zx 216 a) : zrem (a - zrem a 6) 6 = 0 := by
  rw [zx_iff] at h
  have e1 := zrem_nn (x := a) (y := 6) (by decide) h.1
  rw [zlt_6] at e1
  have e2 : (a - zrem a 6).toInt = a.toInt - a.toInt % 6 := by rw [zk_tsub (by omega) (by omega), e1]
  have e3 := zrem_nn (x := a - zrem a 6) (y := 6) (by decide) (by omega)
  rw [zlt_6] at e3
  apply zk_eq.mpr
  rw [e3, e2, zlt_0]
  omega
theorem zCer_p {S T : zS} (h : zCer S T) (a i e : Int32) (hlt : T 13 79 < 30) (ha : zx 216 a) (hi : (i = T 13 79) ∨ ((0 ≤ i.toInt) ∧ (i.toInt < (T 13 79).toInt) ∧ T 139 i.toNatClampNeg = i ∧ ¬ zrem a 6 = 0)) : zCer (z_up (z_up (z_up (z_up S 72 (T 13 79).toNatClampNeg a) 74 (T 13 79).toNatClampNeg i) 73 (T 13 79).toNatClampNeg e) 11 0 ((T 13 79) + 1)) (z_up (z_up (z_up (z_up T 139 (T 13 79).toNatClampNeg i) 140 (T 13 79).toNatClampNeg a) 141 (T 13 79).toNatClampNeg e) 13 79 ((T 13 79) + 1)) := by
  unfold zCer at h ⊢
  obtain ⟨k0, k1, k2, k3, k4, k5, k6, k7, k8, k9, k10⟩ := h
  rw [zk_lt, zlt_30] at hlt
  have e1 : (T 13 79 + 1).toInt = (T 13 79).toInt + 1 := by
    unfold zn at k6
    rw [zk_tadd (by rw [zk_1]; omega) (by rw [zk_1]; omega), zk_1]
  have e2 := zk_nat k6.1
  have e3 := zk_nat (x := T 13 79 + 1) (by have := k6.1; omega)
  simp only [zup2, zup1, k0, k1, k2, k3, k4, k5, not_false_eq_true, not_true_eq_false, Nat.reduceEqDiff, reduceIte, true_and, and_true, ite_true, ite_false]
  refine ⟨?_, ?_, ?_, k9, k10⟩
  · have := k6.1; unfold zn; omega
  · intro c hc
    by_cases ec : c = (T 13 79).toNatClampNeg
    · rw [if_pos ec]
      rcases hi with rfl | ⟨q1, q2, q3, q4⟩
      · refine ⟨by omega, by omega, ?_⟩
        rw [if_pos rfl]
      · have := zk_nat q1
        refine ⟨q1, by omega, ?_⟩
        rw [if_neg (by omega)]; exact q3
    · rw [if_neg ec]
      obtain ⟨g1, g2, g3⟩ := k7 c (by omega)
      have := zk_nat g1
      refine ⟨g1, g2, ?_⟩
      rw [if_neg (by omega)]; exact g3
  · intro c hc
    by_cases ec : c = (T 13 79).toNatClampNeg
    · rw [if_pos ec, if_pos ec]
      refine ⟨ha, fun hz => ?_⟩
      rcases hi with rfl | ⟨q1, q2, q3, q4⟩
      · rw [ec]; exact (zk_of k6.1).symm
      · exact absurd hz q4
    · rw [if_neg ec, if_neg ec]
      exact k8 c (by omega)
theorem zce {n : Nat} {S T : zS} (h : zQ n S T) (a b : Int32) (ha : zx 216 a) : F309 a b T = F208 a b S ∧ zQ n (G208 a b S) (G309 a b T) ∧ ¬ F208 a b S = -2 ∧ ¬ F208 a b S = -3 := by
  have hC := zQ_Cer h
  have hE := zQ_Eng h
  have e11 : S 11 0 = T 13 79 := hC.1
  have e73 : S 73 = T 141 := hC.2.2.1
  have hn := hC.2.2.2.2.2.2.1
  have h7 := hC.2.2.2.2.2.2.2.1
  have h8 := hC.2.2.2.2.2.2.2.2.1
  have s11 : S 0 11 = T 13 1 := (zQ_Key h).2.2.2.2.2.2.1
  have e30 := zeq_top hn zlt_30
  have key : F309 a b T = F208 a b S ∧ zCer (G208 a b S) (G309 a b T) ∧ ¬ F208 a b S = -2 ∧ ¬ F208 a b S = -3 := by
    unfold F309 F208 G208 G309 G4
    rw [hE.1, e11, s11, Int32.add_sub_cancel, z7 hC]
    simp only [e30]
    by_cases c0 : T 84 (a / 36).toNatClampNeg = 2
    rotate_left
    · simp only [if_neg c0]; exact ⟨trivial, hC, by decide, by decide⟩
    by_cases c1 : T 13 79 < 30
    rotate_left
    · simp only [if_pos c0, c1, not_false_eq_true, if_true]; exact ⟨trivial, hC, by decide, by decide⟩
    simp only [if_pos c0, c1, not_true_eq_false, if_false]
    have hcl := zn_cl hn
    have hnat := zk_nat hn.1
    rcases z3by hC a b with ⟨f1, f2⟩ | ⟨i, hi, f1, f2, f3, f4⟩
    · rw [f1, f2]
      simp only [if_true]
      exact ⟨trivial, zCer_p hC a (T 13 79) (T 13 1 + b) c1 ha (Or.inl rfl), zn_m hn (by decide), zn_m hn (by decide)⟩
    · have hne1 : ¬ Int32.ofNat i = -1 := by intro e; have := zk_ti i (by omega); rw [e, zlt_m1] at this; omega
      have hne2 : ¬ Int32.ofNat i = T 13 79 := by intro e; have := zk_ti i (by omega); rw [e] at this; omega
      rw [f1, f2]
      simp only [if_neg hne1, if_neg hne2]
      by_cases c2 : F308 (Int32.ofNat i) T = 0
      · simp only [if_pos c2]; exact ⟨trivial, hC, by decide, by decide⟩
      · simp only [if_neg c2]
        have hs : T 139 i = Int32.ofNat i := (h8 i hi).2 (by rw [f3]; exact zrem_6 ha)
        have hmin : zmin (T 13 1 + b) (S 73 (Int32.ofNat i).toNatClampNeg) = (if (((T 13 1) + b) ≤ (T 141 (Int32.ofNat i).toNatClampNeg)) then (((T 13 1) + b) : Int32) else (T 141 (Int32.ofNat i).toNatClampNeg)) := by
          rw [e73]
          unfold zmin
          generalize T 141 (Int32.ofNat i).toNatClampNeg = y
          generalize T 13 1 + b = x
          by_cases g : y < x
          · rw [if_pos g, if_neg (fun q => by rw [zk_lt] at g; rw [zk_le] at q; omega)]
          · rw [if_neg g, if_pos (by rw [zk_lt] at g; rw [zk_le]; omega)]
        rw [hmin]
        refine ⟨trivial, zCer_p hC a (Int32.ofNat i) _ c1 ha (Or.inr ⟨?_, ?_, ?_, f4⟩), zn_m hn (by decide), zn_m hn (by decide)⟩
        · rw [zk_ti i (by omega)]; omega
        · rw [zk_ti i (by omega)]; omega
        · rw [zk_ix i (by omega)]; exact hs
  exact ⟨key.1, ⟨(zSeal_kc rfl (p_G208 a b S) (zSeal_km rfl (p_G309 a b T) (zQ_Seal h))), (zKey_kc rfl (p_G208 a b S) (zKey_km rfl (p_G309 a b T) (zQ_Key h))), (zEng_kc rfl (p_G208 a b S) (zEng_km rfl (p_G309 a b T) (zQ_Eng h))), (zRul_kc rfl (p_G208 a b S) (zRul_km rfl (p_G309 a b T) (zQ_Rul h))), (zPpl_kc rfl (p_G208 a b S) (zPpl_km rfl (p_G309 a b T) (zQ_Ppl h))), (zTok_kc rfl (p_G208 a b S) (zTok_km rfl (p_G309 a b T) (zQ_Tok h))), (zLea_kc rfl (p_G208 a b S) (zLea_km rfl (p_G309 a b T) (zQ_Lea h))), (zLT_kc rfl (p_G208 a b S) (zLT_km rfl (p_G309 a b T) (zQ_LT h))), (zSto_kc rfl (p_G208 a b S) (zSto_km rfl (p_G309 a b T) (zQ_Sto h))), (zFar_kc rfl (p_G208 a b S) (zFar_km rfl (p_G309 a b T) (zQ_Far h))), (zLog_kc rfl (p_G208 a b S) (zLog_km rfl (p_G309 a b T) (zQ_Log h))), (zWra_kc rfl (p_G208 a b S) (zWra_km rfl (p_G309 a b T) (zQ_Wra h))), (zCas_kc rfl (p_G208 a b S) (zCas_km rfl (p_G309 a b T) (zQ_Cas h))), key.2.1, (zSin_kc rfl (p_G208 a b S) (zSin_km rfl (p_G309 a b T) (zQ_Sin h)))⟩, key.2.2⟩
/-! requests as wholes (wip/whole/gen/gen86.py) -/
theorem zrq27 {n : Nat} {S T : zS} (q1 : Int32) (q2 : Int32) (q3 : Int32) (q4 : Int32) (hn : n < 512) (h : zR n S T) : (((G290 q1 q2 q3 q4 T) 13 0) = (F347_0_148 q1 q2 q3 q4 S) ∧ ((F347_0_148 q1 q2 q3 q4 S) = 0 → ((G347_0_148 q1 q2 q3 q4 S) 148 0) = (F290 q1 q2 q3 q4 T))) ∧ zR (n + 1) (G347_0_148 q1 q2 q3 q4 S) (M27 q1 q2 q3 q4 T) := by
  have h' : zR n S (z_up T 13 0 0) := zQ_R (zQ_thr (zR_Q h) 0) (zU_thr (zR_Use h) 0)
  unfold M27
  by_cases hC : (((¬ (q2 < 0)) ∧ (¬ (4 ≤ q2))) ∧ (((¬ (q3 < 0)) ∧ (¬ (216 ≤ q3))) ∧ ((¬ (q4 < 0)) ∧ (¬ (9999 < q4)))))
  · have hg : (zb ((¬ ((¬ (q2 < 0)) ∧ (¬ (3 < q2)))) ∨ ((¬ ((¬ (q3 < 0)) ∧ (¬ (215 < q3)))) ∨ (¬ ((¬ (q4 < 0)) ∧ (¬ (9999 < q4))))))) = 0 := by rw [zb_0]; simp only [zk_lt, zk_le, zlt_m1, zlt_0, zlt_1, zlt_2, zlt_3, zlt_4, zlt_5, zlt_6, zlt_7, zlt_8, zlt_9, zlt_10, zlt_15, zlt_16, zlt_20, zlt_24, zlt_30, zlt_36, zlt_39, zlt_40, zlt_50, zlt_72, zlt_100, zlt_199, zlt_200, zlt_215, zlt_216, zlt_255, zlt_256, zlt_1000, zlt_9999, zlt_65535, zlt_1000000000] at hC ⊢; omega
    have hx : zx 216 q3 := by rw [zx_iff]; simp only [zk_lt, zk_le, zlt_m1, zlt_0, zlt_1, zlt_2, zlt_3, zlt_4, zlt_5, zlt_6, zlt_7, zlt_8, zlt_9, zlt_10, zlt_15, zlt_16, zlt_20, zlt_24, zlt_30, zlt_36, zlt_39, zlt_40, zlt_50, zlt_72, zlt_100, zlt_199, zlt_200, zlt_215, zlt_216, zlt_255, zlt_256, zlt_1000, zlt_9999, zlt_65535, zlt_1000000000] at hC; omega
    have hd : zn 9999 q4 := by unfold zn; simp only [zk_lt, zk_le, zlt_m1, zlt_0, zlt_1, zlt_2, zlt_3, zlt_4, zlt_5, zlt_6, zlt_7, zlt_8, zlt_9, zlt_10, zlt_15, zlt_16, zlt_20, zlt_24, zlt_30, zlt_36, zlt_39, zlt_40, zlt_50, zlt_72, zlt_100, zlt_199, zlt_200, zlt_215, zlt_216, zlt_255, zlt_256, zlt_1000, zlt_9999, zlt_65535, zlt_1000000000] at hC; omega
    have key := zreq (m := n + 1) (GS := G202 q1 q3 q4 (G196 q1 q2 q3 1 S)) (GT := G289 q1 q3 q4 (G282 q1 q2 q3 1 (z_up T 13 0 0))) (FS := F202 q1 q3 q4 (G196 q1 q2 q3 1 S)) (FT := F289 q1 q3 q4 (G282 q1 q2 q3 1 (z_up T 13 0 0))) h' zQ_up q1 q2 q3 1 0 hx (by decide) (fun z1 z2 z3 z4 => (fun w => ⟨w.1, zQ_up w.2.1, w.2.2⟩) (zrd z1 q1 q3 q4 hx hd ⟨z2, z3⟩)) ((p_G289 _ _ _ _).2 13 45 rfl rfl) ((p_G289 _ _ _ _).1 119 rfl) ((p_G289 _ _ _ _).1 117 rfl)
    have e1 : G290 q1 q2 q3 q4 T = (G283 q1 q3 0 (if (0 ≤ (F282 q1 q2 q3 1 (z_up T 13 0 0))) then ((F289 q1 q3 q4 (G282 q1 q2 q3 1 (z_up T 13 0 0))) : Int32) else (F282 q1 q2 q3 1 (z_up T 13 0 0))) (if (0 ≤ (F282 q1 q2 q3 1 (z_up T 13 0 0))) then (G289 q1 q3 q4 (G282 q1 q2 q3 1 (z_up T 13 0 0))) else (G282 q1 q2 q3 1 (z_up T 13 0 0)))) := by unfold G290; rw [hg, if_pos rfl]
    have e2 : G347_0_148 q1 q2 q3 q4 S = (z_up (G197 q1 q3 1 (if ((F196 q1 q2 q3 1 S) = 0) then ((F202 q1 q3 q4 (G196 q1 q2 q3 1 S)) : Int32) else (F196 q1 q2 q3 1 S)) (if ((F196 q1 q2 q3 1 S) = 0) then (G202 q1 q3 q4 (G196 q1 q2 q3 1 S)) else (G196 q1 q2 q3 1 S))) 148 0 (if ((F196 q1 q2 q3 1 S) = 0) then ((F202 q1 q3 q4 (G196 q1 q2 q3 1 S)) : Int32) else (F196 q1 q2 q3 1 S))) := by unfold G347_0_148; rw [if_pos hC]
    have e3 : F347_0_148 q1 q2 q3 q4 S = 0 := by unfold F347_0_148; rw [zb_0]; simp only [zk_lt, zk_le, zlt_m1, zlt_0, zlt_1, zlt_2, zlt_3, zlt_4, zlt_5, zlt_6, zlt_7, zlt_8, zlt_9, zlt_10, zlt_15, zlt_16, zlt_20, zlt_24, zlt_30, zlt_36, zlt_39, zlt_40, zlt_50, zlt_72, zlt_100, zlt_199, zlt_200, zlt_215, zlt_216, zlt_255, zlt_256, zlt_1000, zlt_9999, zlt_65535, zlt_1000000000] at hC ⊢; omega
    have e4 : F290 q1 q2 q3 q4 T = (if (0 ≤ (F282 q1 q2 q3 1 (z_up T 13 0 0))) then ((F289 q1 q3 q4 (G282 q1 q2 q3 1 (z_up T 13 0 0))) : Int32) else (F282 q1 q2 q3 1 (z_up T 13 0 0))) := by unfold F290; rw [hg, if_pos rfl]
    have thr : (if (0 ≤ (F282 q1 q2 q3 1 (z_up T 13 0 0))) then (G289 q1 q3 q4 (G282 q1 q2 q3 1 (z_up T 13 0 0))) else (G282 q1 q2 q3 1 (z_up T 13 0 0))) 13 0 = 0 := by
      split
      · exact ((p_G289 _ _ _ _).2 13 0 rfl rfl).trans (((p_G282 _ _ _ _ _).2 13 0 rfl rfl).trans (zup_s _ _ _ _))
      · exact ((p_G282 _ _ _ _ _).2 13 0 rfl rfl).trans (zup_s _ _ _ _)
    rw [e1, e2, e3, e4]
    exact ⟨⟨((p_G283 _ _ _ _ _).2 13 0 rfl rfl).trans thr, fun _ => (zup_s _ _ _ _).trans key.1.symm⟩, zQ_R (zQ_out (zR_Q key.2) _) (zU_out (zR_Use key.2) _)⟩
  · have hF : F347_0_148 q1 q2 q3 q4 S = 1 := by unfold F347_0_148; exact (zb_01 _).resolve_left (by rw [zb_0]; simp only [zk_lt, zk_le, zlt_m1, zlt_0, zlt_1, zlt_2, zlt_3, zlt_4, zlt_5, zlt_6, zlt_7, zlt_8, zlt_9, zlt_10, zlt_15, zlt_16, zlt_20, zlt_24, zlt_30, zlt_36, zlt_39, zlt_40, zlt_50, zlt_72, zlt_100, zlt_199, zlt_200, zlt_215, zlt_216, zlt_255, zlt_256, zlt_1000, zlt_9999, zlt_65535, zlt_1000000000] at hC ⊢; omega)
    have hV : (zb ((¬ ((¬ (q2 < 0)) ∧ (¬ (3 < q2)))) ∨ ((¬ ((¬ (q3 < 0)) ∧ (¬ (215 < q3)))) ∨ (¬ ((¬ (q4 < 0)) ∧ (¬ (9999 < q4))))))) = 1 := (zb_01 _).resolve_left (by rw [zb_0]; simp only [zk_lt, zk_le, zlt_m1, zlt_0, zlt_1, zlt_2, zlt_3, zlt_4, zlt_5, zlt_6, zlt_7, zlt_8, zlt_9, zlt_10, zlt_15, zlt_16, zlt_20, zlt_24, zlt_30, zlt_36, zlt_39, zlt_40, zlt_50, zlt_72, zlt_100, zlt_199, zlt_200, zlt_215, zlt_216, zlt_255, zlt_256, zlt_1000, zlt_9999, zlt_65535, zlt_1000000000] at hC ⊢; omega)
    have e1 : G290 q1 q2 q3 q4 T = z_up T 13 0 1 := by unfold G290; rw [hV, if_neg (show ¬ ((1 : Int32) = 0) by decide)]
    have e2 : G347_0_148 q1 q2 q3 q4 S = S := by unfold G347_0_148; rw [if_neg hC]
    rw [e1, e2, hF]
    exact ⟨⟨zup_s _ _ _ _, fun e => absurd e (by decide)⟩, zQ_R (zQ_thr (zQ_up (zR_Q h)) 1) (zU_thr (zR_Use h) 1)⟩
theorem zyr27 {n : Nat} {S T : zS} (q1 : Int32) (q2 : Int32) (q3 : Int32) (q4 : Int32) (hn : n < 512) (h : zR n S T) : ((G290 q1 q2 q3 q4 T) 13 0) = (F347_0_148 q1 q2 q3 q4 S) ∧ ((F347_0_148 q1 q2 q3 q4 S) = 0 → ((G347_0_148 q1 q2 q3 q4 S) 148 0) = (F290 q1 q2 q3 q4 T)) := (zrq27 q1 q2 q3 q4 hn h).1
theorem zyt27_Eng {n : Nat} {S T : zS} (q1 : Int32) (q2 : Int32) (q3 : Int32) (q4 : Int32) (hn : n < 512) (h : zR n S T) : zEng (G347_0_148 q1 q2 q3 q4 S) (M27 q1 q2 q3 q4 T) := zR_Eng (zrq27 q1 q2 q3 q4 hn h).2
theorem zyt27_Tok {n : Nat} {S T : zS} (q1 : Int32) (q2 : Int32) (q3 : Int32) (q4 : Int32) (hn : n < 512) (h : zR n S T) : zTok (G347_0_148 q1 q2 q3 q4 S) (M27 q1 q2 q3 q4 T) := zR_Tok (zrq27 q1 q2 q3 q4 hn h).2
theorem zyt27_Lea {n : Nat} {S T : zS} (q1 : Int32) (q2 : Int32) (q3 : Int32) (q4 : Int32) (hn : n < 512) (h : zR n S T) : zLea (G347_0_148 q1 q2 q3 q4 S) (M27 q1 q2 q3 q4 T) := zR_Lea (zrq27 q1 q2 q3 q4 hn h).2
theorem zyt27_LT {n : Nat} {S T : zS} (q1 : Int32) (q2 : Int32) (q3 : Int32) (q4 : Int32) (hn : n < 512) (h : zR n S T) : zLT (G347_0_148 q1 q2 q3 q4 S) (M27 q1 q2 q3 q4 T) := zR_LT (zrq27 q1 q2 q3 q4 hn h).2
theorem zyt27_Use {n : Nat} {S T : zS} (q1 : Int32) (q2 : Int32) (q3 : Int32) (q4 : Int32) (hn : n < 512) (h : zR n S T) : zUse (G347_0_148 q1 q2 q3 q4 S) (M27 q1 q2 q3 q4 T) := zR_Use (zrq27 q1 q2 q3 q4 hn h).2
theorem zyt27_Cas {n : Nat} {S T : zS} (q1 : Int32) (q2 : Int32) (q3 : Int32) (q4 : Int32) (hn : n < 512) (h : zR n S T) : zCas (G347_0_148 q1 q2 q3 q4 S) (M27 q1 q2 q3 q4 T) := zR_Cas (zrq27 q1 q2 q3 q4 hn h).2
theorem zyt27_Sin {n : Nat} {S T : zS} (q1 : Int32) (q2 : Int32) (q3 : Int32) (q4 : Int32) (hn : n < 512) (h : zR n S T) : zSin (G347_0_148 q1 q2 q3 q4 S) (M27 q1 q2 q3 q4 T) := zR_Sin (zrq27 q1 q2 q3 q4 hn h).2
theorem zrq32 {n : Nat} {S T : zS} (q1 : Int32) (q2 : Int32) (q3 : Int32) (q4 : Int32) (q5 : Int32) (hn : n < 512) (h : zR n S T) : (((G297 q1 q2 q3 q4 q5 T) 13 0) = (F352_0_148 q1 q2 q3 q4 q5 S) ∧ ((F352_0_148 q1 q2 q3 q4 q5 S) = 0 → ((G352_0_148 q1 q2 q3 q4 q5 S) 148 0) = (F297 q1 q2 q3 q4 q5 T))) ∧ zR (n + 1) (G352_0_148 q1 q2 q3 q4 q5 S) (M32 q1 q2 q3 q4 q5 T) := by
  have h' : zR n S (z_up T 13 0 0) := zQ_R (zQ_thr (zR_Q h) 0) (zU_thr (zR_Use h) 0)
  unfold M32
  by_cases hC : ((((¬ (q2 < 0)) ∧ (¬ (4 ≤ q2))) ∧ ((¬ (q3 < 0)) ∧ (¬ (216 ≤ q3)))) ∧ (((¬ (q4 < 1)) ∧ (¬ (50 < q4))) ∧ ((¬ (q5 < q4)) ∧ (¬ (100 < q5)))))
  · have hg : (zb (¬ (((¬ (q2 < 0)) ∧ (¬ (3 < q2))) ∧ (((¬ (q3 < 0)) ∧ (¬ (215 < q3))) ∧ (((¬ (q4 < 1)) ∧ (¬ (50 < q4))) ∧ ((¬ (q5 < q4)) ∧ (¬ (100 < q5)))))))) = 0 := by rw [zb_0]; simp only [zk_lt, zk_le, zlt_m1, zlt_0, zlt_1, zlt_2, zlt_3, zlt_4, zlt_5, zlt_6, zlt_7, zlt_8, zlt_9, zlt_10, zlt_15, zlt_16, zlt_20, zlt_24, zlt_30, zlt_36, zlt_39, zlt_40, zlt_50, zlt_72, zlt_100, zlt_199, zlt_200, zlt_215, zlt_216, zlt_255, zlt_256, zlt_1000, zlt_9999, zlt_65535, zlt_1000000000] at hC ⊢; omega
    have hx : zx 216 q3 := by rw [zx_iff]; simp only [zk_lt, zk_le, zlt_m1, zlt_0, zlt_1, zlt_2, zlt_3, zlt_4, zlt_5, zlt_6, zlt_7, zlt_8, zlt_9, zlt_10, zlt_15, zlt_16, zlt_20, zlt_24, zlt_30, zlt_36, zlt_39, zlt_40, zlt_50, zlt_72, zlt_100, zlt_199, zlt_200, zlt_215, zlt_216, zlt_255, zlt_256, zlt_1000, zlt_9999, zlt_65535, zlt_1000000000] at hC; omega
    have key := zreq (m := n + 1) (GS := G205 q1 q3 q4 q5 (G196 q1 q2 q3 8 S)) (GT := G296 q1 q3 q4 q5 (G282 q1 q2 q3 8 (z_up T 13 0 0))) (FS := F205 q1 q3 q4 q5 (G196 q1 q2 q3 8 S)) (FT := F296 q1 q3 q4 q5 (G282 q1 q2 q3 8 (z_up T 13 0 0))) h' zQ_up q1 q2 q3 8 3 hx (by decide) (fun z1 z2 z3 z4 => (fun w => ⟨w.1, zQ_up w.2.1, w.2.2⟩) (zis z1 q1 q3 q4 q5 hx z2 z3 z4)) ((p_G296 _ _ _ _ _).2 13 45 rfl rfl) ((p_G296 _ _ _ _ _).1 119 rfl) ((p_G296 _ _ _ _ _).1 117 rfl)
    have e1 : G297 q1 q2 q3 q4 q5 T = (G283 q1 q3 3 (if (0 ≤ (F282 q1 q2 q3 8 (z_up T 13 0 0))) then ((F296 q1 q3 q4 q5 (G282 q1 q2 q3 8 (z_up T 13 0 0))) : Int32) else (F282 q1 q2 q3 8 (z_up T 13 0 0))) (if (0 ≤ (F282 q1 q2 q3 8 (z_up T 13 0 0))) then (G296 q1 q3 q4 q5 (G282 q1 q2 q3 8 (z_up T 13 0 0))) else (G282 q1 q2 q3 8 (z_up T 13 0 0)))) := by unfold G297; rw [hg, if_pos rfl]
    have e2 : G352_0_148 q1 q2 q3 q4 q5 S = (z_up (G197 q1 q3 8 (if ((F196 q1 q2 q3 8 S) = 0) then ((F205 q1 q3 q4 q5 (G196 q1 q2 q3 8 S)) : Int32) else (F196 q1 q2 q3 8 S)) (if ((F196 q1 q2 q3 8 S) = 0) then (G205 q1 q3 q4 q5 (G196 q1 q2 q3 8 S)) else (G196 q1 q2 q3 8 S))) 148 0 (if ((F196 q1 q2 q3 8 S) = 0) then ((F205 q1 q3 q4 q5 (G196 q1 q2 q3 8 S)) : Int32) else (F196 q1 q2 q3 8 S))) := by unfold G352_0_148; rw [if_pos hC.1, if_pos hC.2]
    have e3 : F352_0_148 q1 q2 q3 q4 q5 S = 0 := by unfold F352_0_148; rw [zb_0]; simp only [zk_lt, zk_le, zlt_m1, zlt_0, zlt_1, zlt_2, zlt_3, zlt_4, zlt_5, zlt_6, zlt_7, zlt_8, zlt_9, zlt_10, zlt_15, zlt_16, zlt_20, zlt_24, zlt_30, zlt_36, zlt_39, zlt_40, zlt_50, zlt_72, zlt_100, zlt_199, zlt_200, zlt_215, zlt_216, zlt_255, zlt_256, zlt_1000, zlt_9999, zlt_65535, zlt_1000000000] at hC ⊢; omega
    have e4 : F297 q1 q2 q3 q4 q5 T = (if (0 ≤ (F282 q1 q2 q3 8 (z_up T 13 0 0))) then ((F296 q1 q3 q4 q5 (G282 q1 q2 q3 8 (z_up T 13 0 0))) : Int32) else (F282 q1 q2 q3 8 (z_up T 13 0 0))) := by unfold F297; rw [hg, if_pos rfl]
    have thr : (if (0 ≤ (F282 q1 q2 q3 8 (z_up T 13 0 0))) then (G296 q1 q3 q4 q5 (G282 q1 q2 q3 8 (z_up T 13 0 0))) else (G282 q1 q2 q3 8 (z_up T 13 0 0))) 13 0 = 0 := by
      split
      · exact ((p_G296 _ _ _ _ _).2 13 0 rfl rfl).trans (((p_G282 _ _ _ _ _).2 13 0 rfl rfl).trans (zup_s _ _ _ _))
      · exact ((p_G282 _ _ _ _ _).2 13 0 rfl rfl).trans (zup_s _ _ _ _)
    rw [e1, e2, e3, e4]
    exact ⟨⟨((p_G283 _ _ _ _ _).2 13 0 rfl rfl).trans thr, fun _ => (zup_s _ _ _ _).trans key.1.symm⟩, zQ_R (zQ_out (zR_Q key.2) _) (zU_out (zR_Use key.2) _)⟩
  · have hF : F352_0_148 q1 q2 q3 q4 q5 S = 1 := by unfold F352_0_148; exact (zb_01 _).resolve_left (by rw [zb_0]; simp only [zk_lt, zk_le, zlt_m1, zlt_0, zlt_1, zlt_2, zlt_3, zlt_4, zlt_5, zlt_6, zlt_7, zlt_8, zlt_9, zlt_10, zlt_15, zlt_16, zlt_20, zlt_24, zlt_30, zlt_36, zlt_39, zlt_40, zlt_50, zlt_72, zlt_100, zlt_199, zlt_200, zlt_215, zlt_216, zlt_255, zlt_256, zlt_1000, zlt_9999, zlt_65535, zlt_1000000000] at hC ⊢; omega)
    have hV : (zb (¬ (((¬ (q2 < 0)) ∧ (¬ (3 < q2))) ∧ (((¬ (q3 < 0)) ∧ (¬ (215 < q3))) ∧ (((¬ (q4 < 1)) ∧ (¬ (50 < q4))) ∧ ((¬ (q5 < q4)) ∧ (¬ (100 < q5)))))))) = 1 := (zb_01 _).resolve_left (by rw [zb_0]; simp only [zk_lt, zk_le, zlt_m1, zlt_0, zlt_1, zlt_2, zlt_3, zlt_4, zlt_5, zlt_6, zlt_7, zlt_8, zlt_9, zlt_10, zlt_15, zlt_16, zlt_20, zlt_24, zlt_30, zlt_36, zlt_39, zlt_40, zlt_50, zlt_72, zlt_100, zlt_199, zlt_200, zlt_215, zlt_216, zlt_255, zlt_256, zlt_1000, zlt_9999, zlt_65535, zlt_1000000000] at hC ⊢; omega)
    have e1 : G297 q1 q2 q3 q4 q5 T = z_up T 13 0 1 := by unfold G297; rw [hV, if_neg (show ¬ ((1 : Int32) = 0) by decide)]
    have e2 : G352_0_148 q1 q2 q3 q4 q5 S = S := by       unfold G352_0_148
      by_cases hA : (((¬ (q2 < 0)) ∧ (¬ (4 ≤ q2))) ∧ ((¬ (q3 < 0)) ∧ (¬ (216 ≤ q3))))
      · rw [if_pos hA, if_neg (fun q => hC ⟨hA, q⟩)]
      · rw [if_neg hA]
    rw [e1, e2, hF]
    exact ⟨⟨zup_s _ _ _ _, fun e => absurd e (by decide)⟩, zQ_R (zQ_thr (zQ_up (zR_Q h)) 1) (zU_thr (zR_Use h) 1)⟩
theorem zyr32 {n : Nat} {S T : zS} (q1 : Int32) (q2 : Int32) (q3 : Int32) (q4 : Int32) (q5 : Int32) (hn : n < 512) (h : zR n S T) : ((G297 q1 q2 q3 q4 q5 T) 13 0) = (F352_0_148 q1 q2 q3 q4 q5 S) ∧ ((F352_0_148 q1 q2 q3 q4 q5 S) = 0 → ((G352_0_148 q1 q2 q3 q4 q5 S) 148 0) = (F297 q1 q2 q3 q4 q5 T)) := (zrq32 q1 q2 q3 q4 q5 hn h).1
theorem zyt32_Eng {n : Nat} {S T : zS} (q1 : Int32) (q2 : Int32) (q3 : Int32) (q4 : Int32) (q5 : Int32) (hn : n < 512) (h : zR n S T) : zEng (G352_0_148 q1 q2 q3 q4 q5 S) (M32 q1 q2 q3 q4 q5 T) := zR_Eng (zrq32 q1 q2 q3 q4 q5 hn h).2
theorem zyt32_Tok {n : Nat} {S T : zS} (q1 : Int32) (q2 : Int32) (q3 : Int32) (q4 : Int32) (q5 : Int32) (hn : n < 512) (h : zR n S T) : zTok (G352_0_148 q1 q2 q3 q4 q5 S) (M32 q1 q2 q3 q4 q5 T) := zR_Tok (zrq32 q1 q2 q3 q4 q5 hn h).2
theorem zyt32_Lea {n : Nat} {S T : zS} (q1 : Int32) (q2 : Int32) (q3 : Int32) (q4 : Int32) (q5 : Int32) (hn : n < 512) (h : zR n S T) : zLea (G352_0_148 q1 q2 q3 q4 q5 S) (M32 q1 q2 q3 q4 q5 T) := zR_Lea (zrq32 q1 q2 q3 q4 q5 hn h).2
theorem zyt32_LT {n : Nat} {S T : zS} (q1 : Int32) (q2 : Int32) (q3 : Int32) (q4 : Int32) (q5 : Int32) (hn : n < 512) (h : zR n S T) : zLT (G352_0_148 q1 q2 q3 q4 q5 S) (M32 q1 q2 q3 q4 q5 T) := zR_LT (zrq32 q1 q2 q3 q4 q5 hn h).2
theorem zyt32_Use {n : Nat} {S T : zS} (q1 : Int32) (q2 : Int32) (q3 : Int32) (q4 : Int32) (q5 : Int32) (hn : n < 512) (h : zR n S T) : zUse (G352_0_148 q1 q2 q3 q4 q5 S) (M32 q1 q2 q3 q4 q5 T) := zR_Use (zrq32 q1 q2 q3 q4 q5 hn h).2
theorem zyt32_Sin {n : Nat} {S T : zS} (q1 : Int32) (q2 : Int32) (q3 : Int32) (q4 : Int32) (q5 : Int32) (hn : n < 512) (h : zR n S T) : zSin (G352_0_148 q1 q2 q3 q4 q5 S) (M32 q1 q2 q3 q4 q5 T) := zR_Sin (zrq32 q1 q2 q3 q4 q5 hn h).2
theorem zrq44 {n : Nat} {S T : zS} (q1 : Int32) (q2 : Int32) (q3 : Int32) (q4 : Int32) (hn : n < 512) (h : zR n S T) : (((G310 q1 q2 q3 q4 T) 13 0) = (F363_0_148 q1 q2 q3 q4 S) ∧ ((F363_0_148 q1 q2 q3 q4 S) = 0 → ((G363_0_148 q1 q2 q3 q4 S) 148 0) = (F310 q1 q2 q3 q4 T))) ∧ zR (n + 1) (G363_0_148 q1 q2 q3 q4 S) (M44 q1 q2 q3 q4 T) := by
  have h' : zR n S (z_up T 13 0 0) := zQ_R (zQ_thr (zR_Q h) 0) (zU_thr (zR_Use h) 0)
  unfold M44
  by_cases hC : (((¬ (q2 < 0)) ∧ (¬ (4 ≤ q2))) ∧ (((¬ (q3 < 0)) ∧ (¬ (216 ≤ q3))) ∧ ((¬ (q4 < 1)) ∧ (¬ (200 < q4)))))
  · have hg : (zb ((¬ ((¬ (q2 < 0)) ∧ (¬ (3 < q2)))) ∨ ((¬ ((¬ (q3 < 0)) ∧ (¬ (215 < q3)))) ∨ (¬ ((¬ (q4 < 1)) ∧ (¬ (200 < q4))))))) = 0 := by rw [zb_0]; simp only [zk_lt, zk_le, zlt_m1, zlt_0, zlt_1, zlt_2, zlt_3, zlt_4, zlt_5, zlt_6, zlt_7, zlt_8, zlt_9, zlt_10, zlt_15, zlt_16, zlt_20, zlt_24, zlt_30, zlt_36, zlt_39, zlt_40, zlt_50, zlt_72, zlt_100, zlt_199, zlt_200, zlt_215, zlt_216, zlt_255, zlt_256, zlt_1000, zlt_9999, zlt_65535, zlt_1000000000] at hC ⊢; omega
    have hx : zx 216 q3 := by rw [zx_iff]; simp only [zk_lt, zk_le, zlt_m1, zlt_0, zlt_1, zlt_2, zlt_3, zlt_4, zlt_5, zlt_6, zlt_7, zlt_8, zlt_9, zlt_10, zlt_15, zlt_16, zlt_20, zlt_24, zlt_30, zlt_36, zlt_39, zlt_40, zlt_50, zlt_72, zlt_100, zlt_199, zlt_200, zlt_215, zlt_216, zlt_255, zlt_256, zlt_1000, zlt_9999, zlt_65535, zlt_1000000000] at hC; omega
    have key := zreq (m := n + 1) (GS := G208 q3 q4 (G196 q1 q2 q3 8 S)) (GT := G309 q3 q4 (G282 q1 q2 q3 8 (z_up T 13 0 0))) (FS := F208 q3 q4 (G196 q1 q2 q3 8 S)) (FT := F309 q3 q4 (G282 q1 q2 q3 8 (z_up T 13 0 0))) h' zQ_up q1 q2 q3 8 3 hx (by decide) (fun z1 z2 z3 z4 => (fun w => ⟨w.1, zQ_up w.2.1, w.2.2⟩) (zce z1 q3 q4 hx)) ((p_G309 _ _ _).2 13 45 rfl rfl) ((p_G309 _ _ _).1 119 rfl) ((p_G309 _ _ _).1 117 rfl)
    have e1 : G310 q1 q2 q3 q4 T = (G283 q1 q3 3 (if (0 ≤ (F282 q1 q2 q3 8 (z_up T 13 0 0))) then ((F309 q3 q4 (G282 q1 q2 q3 8 (z_up T 13 0 0))) : Int32) else (F282 q1 q2 q3 8 (z_up T 13 0 0))) (if (0 ≤ (F282 q1 q2 q3 8 (z_up T 13 0 0))) then (G309 q3 q4 (G282 q1 q2 q3 8 (z_up T 13 0 0))) else (G282 q1 q2 q3 8 (z_up T 13 0 0)))) := by unfold G310; rw [hg, if_pos rfl]
    have e2 : G363_0_148 q1 q2 q3 q4 S = (z_up (G197 q1 q3 8 (if ((F196 q1 q2 q3 8 S) = 0) then ((F208 q3 q4 (G196 q1 q2 q3 8 S)) : Int32) else (F196 q1 q2 q3 8 S)) (if ((F196 q1 q2 q3 8 S) = 0) then (G208 q3 q4 (G196 q1 q2 q3 8 S)) else (G196 q1 q2 q3 8 S))) 148 0 (if ((F196 q1 q2 q3 8 S) = 0) then ((F208 q3 q4 (G196 q1 q2 q3 8 S)) : Int32) else (F196 q1 q2 q3 8 S))) := by unfold G363_0_148; rw [if_pos hC]
    have e3 : F363_0_148 q1 q2 q3 q4 S = 0 := by unfold F363_0_148; rw [zb_0]; simp only [zk_lt, zk_le, zlt_m1, zlt_0, zlt_1, zlt_2, zlt_3, zlt_4, zlt_5, zlt_6, zlt_7, zlt_8, zlt_9, zlt_10, zlt_15, zlt_16, zlt_20, zlt_24, zlt_30, zlt_36, zlt_39, zlt_40, zlt_50, zlt_72, zlt_100, zlt_199, zlt_200, zlt_215, zlt_216, zlt_255, zlt_256, zlt_1000, zlt_9999, zlt_65535, zlt_1000000000] at hC ⊢; omega
    have e4 : F310 q1 q2 q3 q4 T = (if (0 ≤ (F282 q1 q2 q3 8 (z_up T 13 0 0))) then ((F309 q3 q4 (G282 q1 q2 q3 8 (z_up T 13 0 0))) : Int32) else (F282 q1 q2 q3 8 (z_up T 13 0 0))) := by unfold F310; rw [hg, if_pos rfl]
    have thr : (if (0 ≤ (F282 q1 q2 q3 8 (z_up T 13 0 0))) then (G309 q3 q4 (G282 q1 q2 q3 8 (z_up T 13 0 0))) else (G282 q1 q2 q3 8 (z_up T 13 0 0))) 13 0 = 0 := by
      split
      · exact ((p_G309 _ _ _).2 13 0 rfl rfl).trans (((p_G282 _ _ _ _ _).2 13 0 rfl rfl).trans (zup_s _ _ _ _))
      · exact ((p_G282 _ _ _ _ _).2 13 0 rfl rfl).trans (zup_s _ _ _ _)
    rw [e1, e2, e3, e4]
    exact ⟨⟨((p_G283 _ _ _ _ _).2 13 0 rfl rfl).trans thr, fun _ => (zup_s _ _ _ _).trans key.1.symm⟩, zQ_R (zQ_out (zR_Q key.2) _) (zU_out (zR_Use key.2) _)⟩
  · have hF : F363_0_148 q1 q2 q3 q4 S = 1 := by unfold F363_0_148; exact (zb_01 _).resolve_left (by rw [zb_0]; simp only [zk_lt, zk_le, zlt_m1, zlt_0, zlt_1, zlt_2, zlt_3, zlt_4, zlt_5, zlt_6, zlt_7, zlt_8, zlt_9, zlt_10, zlt_15, zlt_16, zlt_20, zlt_24, zlt_30, zlt_36, zlt_39, zlt_40, zlt_50, zlt_72, zlt_100, zlt_199, zlt_200, zlt_215, zlt_216, zlt_255, zlt_256, zlt_1000, zlt_9999, zlt_65535, zlt_1000000000] at hC ⊢; omega)
    have hV : (zb ((¬ ((¬ (q2 < 0)) ∧ (¬ (3 < q2)))) ∨ ((¬ ((¬ (q3 < 0)) ∧ (¬ (215 < q3)))) ∨ (¬ ((¬ (q4 < 1)) ∧ (¬ (200 < q4))))))) = 1 := (zb_01 _).resolve_left (by rw [zb_0]; simp only [zk_lt, zk_le, zlt_m1, zlt_0, zlt_1, zlt_2, zlt_3, zlt_4, zlt_5, zlt_6, zlt_7, zlt_8, zlt_9, zlt_10, zlt_15, zlt_16, zlt_20, zlt_24, zlt_30, zlt_36, zlt_39, zlt_40, zlt_50, zlt_72, zlt_100, zlt_199, zlt_200, zlt_215, zlt_216, zlt_255, zlt_256, zlt_1000, zlt_9999, zlt_65535, zlt_1000000000] at hC ⊢; omega)
    have e1 : G310 q1 q2 q3 q4 T = z_up T 13 0 1 := by unfold G310; rw [hV, if_neg (show ¬ ((1 : Int32) = 0) by decide)]
    have e2 : G363_0_148 q1 q2 q3 q4 S = S := by unfold G363_0_148; rw [if_neg hC]
    rw [e1, e2, hF]
    exact ⟨⟨zup_s _ _ _ _, fun e => absurd e (by decide)⟩, zQ_R (zQ_thr (zQ_up (zR_Q h)) 1) (zU_thr (zR_Use h) 1)⟩
theorem zyr44 {n : Nat} {S T : zS} (q1 : Int32) (q2 : Int32) (q3 : Int32) (q4 : Int32) (hn : n < 512) (h : zR n S T) : ((G310 q1 q2 q3 q4 T) 13 0) = (F363_0_148 q1 q2 q3 q4 S) ∧ ((F363_0_148 q1 q2 q3 q4 S) = 0 → ((G363_0_148 q1 q2 q3 q4 S) 148 0) = (F310 q1 q2 q3 q4 T)) := (zrq44 q1 q2 q3 q4 hn h).1
theorem zyt44_Eng {n : Nat} {S T : zS} (q1 : Int32) (q2 : Int32) (q3 : Int32) (q4 : Int32) (hn : n < 512) (h : zR n S T) : zEng (G363_0_148 q1 q2 q3 q4 S) (M44 q1 q2 q3 q4 T) := zR_Eng (zrq44 q1 q2 q3 q4 hn h).2
theorem zyt44_Tok {n : Nat} {S T : zS} (q1 : Int32) (q2 : Int32) (q3 : Int32) (q4 : Int32) (hn : n < 512) (h : zR n S T) : zTok (G363_0_148 q1 q2 q3 q4 S) (M44 q1 q2 q3 q4 T) := zR_Tok (zrq44 q1 q2 q3 q4 hn h).2
theorem zyt44_Lea {n : Nat} {S T : zS} (q1 : Int32) (q2 : Int32) (q3 : Int32) (q4 : Int32) (hn : n < 512) (h : zR n S T) : zLea (G363_0_148 q1 q2 q3 q4 S) (M44 q1 q2 q3 q4 T) := zR_Lea (zrq44 q1 q2 q3 q4 hn h).2
theorem zyt44_LT {n : Nat} {S T : zS} (q1 : Int32) (q2 : Int32) (q3 : Int32) (q4 : Int32) (hn : n < 512) (h : zR n S T) : zLT (G363_0_148 q1 q2 q3 q4 S) (M44 q1 q2 q3 q4 T) := zR_LT (zrq44 q1 q2 q3 q4 hn h).2
theorem zyt44_Use {n : Nat} {S T : zS} (q1 : Int32) (q2 : Int32) (q3 : Int32) (q4 : Int32) (hn : n < 512) (h : zR n S T) : zUse (G363_0_148 q1 q2 q3 q4 S) (M44 q1 q2 q3 q4 T) := zR_Use (zrq44 q1 q2 q3 q4 hn h).2
theorem zyt44_Cer {n : Nat} {S T : zS} (q1 : Int32) (q2 : Int32) (q3 : Int32) (q4 : Int32) (hn : n < 512) (h : zR n S T) : zCer (G363_0_148 q1 q2 q3 q4 S) (M44 q1 q2 q3 q4 T) := zR_Cer (zrq44 q1 q2 q3 q4 hn h).2
theorem zyt44_Sin {n : Nat} {S T : zS} (q1 : Int32) (q2 : Int32) (q3 : Int32) (q4 : Int32) (hn : n < 512) (h : zR n S T) : zSin (G363_0_148 q1 q2 q3 q4 S) (M44 q1 q2 q3 q4 T) := zR_Sin (zrq44 q1 q2 q3 q4 hn h).2
