/-! the own parts of requests: writing, erasing (wip/whole/gen/gen87.py) -/
def zKeyN (N : Nat) (S T : zS) : Prop := S 2 0 = T 13 13 ∧ S 2 1 = T 13 14 ∧ S 2 2 = T 13 15 ∧ S 2 3 = T 13 18 ∧ S 2 4 = T 13 16 ∧ S 2 5 = T 13 17 ∧ S 0 11 = T 13 1 ∧ 1 ≤ (T 13 13).toInt ∧ (T 13 13).toInt ≤ N
theorem zKeyN_of {n : Nat} {S T : zS} (h : zKey n S T) : zKeyN (1 + 60 * n) S T := by
  unfold zKey at h
  obtain ⟨h0, h1, h2, h3, h4, h5, h6, h7, h8, h9⟩ := h
  exact ⟨h0, h1, h2, h3, h4, h5, h6, h8, by omega⟩
theorem zKeyN_c {N : Nat} {S T S' T' : zS} (e : ∀ i, i < 19 → T' 13 i = T 13 i) (e2 : ∀ i, S' 2 i = S 2 i) (e0 : S' 0 11 = S 0 11) (h : zKeyN N S T) : zKeyN N S' T' := by
  unfold zKeyN at *
  rw [e 13 (by decide), e 14 (by decide), e 15 (by decide), e 16 (by decide), e 17 (by decide), e 18 (by decide), e 1 (by decide), e0]
  simp only [e2]
  exact h
theorem zKeyN_to {n N : Nat} {S T : zS} (h : zKeyN N S T) (hN : N ≤ 1 + 60 * n) (hh : zn (50 * n) (T 13 1)) : zKey n S T := by
  obtain ⟨h0, h1, h2, h3, h4, h5, h6, h8, h9⟩ := h
  exact ⟨h0, h1, h2, h3, h4, h5, h6, hh, h8, by omega⟩
theorem zkeep {N : Nat} {S T : zS} (h : zKeyN N S T) (hN : N < 1000000) : zKeyN (N + 1) (G41 (T 13 1) S) (G229 T) ∧ F41 (T 13 1) S = F229 T ∧ F229 T = (G229 T) 13 13 ∧ (G229 T) 13 1 = T 13 1 := by
  unfold zKeyN at h ⊢
  obtain ⟨h0, h1, h2, h3, h4, h5, h6, h7, h8⟩ := h
  have e1 : (T 13 13 + 1).toInt = (T 13 13).toInt + 1 := by rw [zk_tadd (by rw [zk_1]; omega) (by rw [zk_1]; omega), zk_1]
  unfold G41 G229 F41 F229
  rw [h4, h1, h2, h5, h0]
  by_cases c0 : (T 13 16) ≤ (T 13 14)
  · simp only [if_pos c0, zup2, h0, h1, h2, h3, h4, h5, h6, Nat.reduceEqDiff, reduceIte, true_and, and_true, ite_true, ite_false]
    omega
  · by_cases c1 : ((T 13 1) - (T 13 15)) < (T 13 17)
    · simp only [if_neg c0, if_pos c1, zup2, h0, h1, h2, h3, h4, h5, h6, Nat.reduceEqDiff, reduceIte, true_and, and_true, ite_true, ite_false]
      omega
    · simp only [if_neg c0, if_neg c1, zup2, h0, h1, h2, h3, h4, h5, h6, Nat.reduceEqDiff, reduceIte, true_and, and_true, ite_true, ite_false]
      omega
/-! the log's replay -/
theorem zRepF_s (n : Nat) (lp lv lt hL hS : Nat → Int32) (r : Nat) (fL fS : Nat → Int32) : zRepF n lp lv lt hL hS (r + 1) fL fS = (if lt (n - (r + 1)) = -1 then (lv (n - (r + 1))).toInt = (fL (lp (n - (r + 1))).toNatClampNeg).toInt + 1 ∧ zRepF n lp lv lt hL hS r (upd fL (lp (n - (r + 1))).toNatClampNeg (lv (n - (r + 1)))) (upd fS ((lp (n - (r + 1))).toNatClampNeg * 4 + ((lv (n - (r + 1))).toInt % 4).toNat) 0) else 1 ≤ (lv (n - (r + 1))).toInt ∧ (lv (n - (r + 1))).toInt ≤ (fL (lp (n - (r + 1))).toNatClampNeg).toInt ∧ (fL (lp (n - (r + 1))).toNatClampNeg).toInt - 4 < (lv (n - (r + 1))).toInt ∧ ¬ fS ((lp (n - (r + 1))).toNatClampNeg * 4 + ((lv (n - (r + 1))).toInt % 4).toNat) = 2 ∧ zRepF n lp lv lt hL hS r fL (upd fS ((lp (n - (r + 1))).toNatClampNeg * 4 + ((lv (n - (r + 1))).toInt % 4).toNat) (lt (n - (r + 1))))) := rfl
theorem zRepF_app {n : Nat} {lp lv lt lp' lv' lt' hL hS hL' hS' : Nat → Int32} (hag : ∀ k, k < n → lp' k = lp k ∧ lv' k = lv k ∧ lt' k = lt k) (hend : ∀ fL fS, zRepF n lp lv lt hL hS 0 fL fS → zRepF (n + 1) lp' lv' lt' hL' hS' 1 fL fS) : ∀ r, r ≤ n → ∀ fL fS, zRepF n lp lv lt hL hS r fL fS → zRepF (n + 1) lp' lv' lt' hL' hS' (r + 1) fL fS := by
  intro r
  induction r with
  | zero => intro _ fL fS h; exact hend fL fS h
  | succ r ih =>
    intro hr fL fS h
    rw [zRepF_s] at h ⊢
    have e : n + 1 - (r + 1 + 1) = n - (r + 1) := by omega
    rw [e]
    obtain ⟨e1, e2, e3⟩ := hag (n - (r + 1)) (by omega)
    rw [e1, e2, e3]
    by_cases c : lt (n - (r + 1)) = -1
    · rw [if_pos c] at h ⊢
      exact ⟨h.1, ih (by omega) _ _ h.2⟩
    · rw [if_neg c] at h ⊢
      exact ⟨h.1, h.2.1, h.2.2.1, h.2.2.2.1, ih (by omega) _ _ h.2.2.2.2⟩
theorem zRep_w {n : Nat} {lp lv lt lp' lv' lt' fL fS hL hS : Nat → Int32} (h : zRep n lp lv lt fL fS hL hS) (hag : ∀ k, k < n → lp' k = lp k ∧ lv' k = lv k ∧ lt' k = lt k) (p v : Int32) (hp : zx 216 p) (h1 : lp' n = p) (h2 : lv' n = v) (h3 : lt' n = -1) (hv : v.toInt = (hL p.toNatClampNeg).toInt + 1) : zRep (n + 1) lp' lv' lt' fL fS (upd hL p.toNatClampNeg v) (upd hS (p.toNatClampNeg * 4 + (v.toInt % 4).toNat) 0) := by
  refine zRepF_app hag (fun gL gS h0 => ?_) n (Nat.le_refl _) fL fS h
  have hpn : p.toNatClampNeg < 216 := by rw [zx_iff] at hp; have := zk_nat hp.1; omega
  rw [zRepF_s, show n + 1 - (0 + 1) = n from by omega, h1, h2, h3, if_pos rfl]
  have h0' : ∀ p, p < 216 → gL p = hL p ∧ ∀ v : Int, 1 ≤ v → v ≤ (hL p).toInt → (hL p).toInt - 4 < v → gS (p * 4 + (v % 4).toNat) = hS (p * 4 + (v % 4).toNat) := h0
  refine ⟨by rw [(h0' _ hpn).1]; exact hv, ?_⟩
  show ∀ q, q < 216 → (upd gL p.toNatClampNeg v) q = (upd hL p.toNatClampNeg v) q ∧ ∀ w : Int, 1 ≤ w → w ≤ ((upd hL p.toNatClampNeg v) q).toInt → ((upd hL p.toNatClampNeg v) q).toInt - 4 < w → (upd gS (p.toNatClampNeg * 4 + (v.toInt % 4).toNat) 0) (q * 4 + (w % 4).toNat) = (upd hS (p.toNatClampNeg * 4 + (v.toInt % 4).toNat) 0) (q * 4 + (w % 4).toNat)
  intro q hq
  obtain ⟨g1, g2⟩ := h0' q hq
  refine ⟨?_, ?_⟩
  · rw [upd_r, upd_r]
    split
    · rfl
    · exact g1
  · intro w w1 w2 w3
    rw [upd_r] at w2 w3
    rw [upd_r, upd_r]
    by_cases c : q * 4 + (w % 4).toNat = p.toNatClampNeg * 4 + (v.toInt % 4).toNat
    · rw [if_pos c, if_pos c]
    · rw [if_neg c, if_neg c]
      by_cases cq : q = p.toNatClampNeg
      · rw [if_pos cq] at w2 w3
        subst cq
        have hne : w ≠ v.toInt := fun e => c (by rw [e])
        exact g2 w w1 (by omega) (by omega)
      · rw [if_neg cq] at w2 w3
        exact g2 w w1 w2 w3
theorem zRep_e {n : Nat} {lp lv lt lp' lv' lt' fL fS hL hS : Nat → Int32} (h : zRep n lp lv lt fL fS hL hS) (hag : ∀ k, k < n → lp' k = lp k ∧ lv' k = lv k ∧ lt' k = lt k) (p v t : Int32) (hp : zx 216 p) (h1 : lp' n = p) (h2 : lv' n = v) (h3 : lt' n = t) (ht : ¬ t = -1) (v1 : 1 ≤ v.toInt) (v2 : v.toInt ≤ (hL p.toNatClampNeg).toInt) (v3 : (hL p.toNatClampNeg).toInt - 4 < v.toInt) (v4 : ¬ hS (p.toNatClampNeg * 4 + (v.toInt % 4).toNat) = 2) : zRep (n + 1) lp' lv' lt' fL fS hL (upd hS (p.toNatClampNeg * 4 + (v.toInt % 4).toNat) t) := by
  refine zRepF_app hag (fun gL gS h0 => ?_) n (Nat.le_refl _) fL fS h
  have hpn : p.toNatClampNeg < 216 := by rw [zx_iff] at hp; have := zk_nat hp.1; omega
  rw [zRepF_s, show n + 1 - (0 + 1) = n from by omega, h1, h2, h3, if_neg ht]
  have h0' : ∀ p, p < 216 → gL p = hL p ∧ ∀ v : Int, 1 ≤ v → v ≤ (hL p).toInt → (hL p).toInt - 4 < v → gS (p * 4 + (v % 4).toNat) = hS (p * 4 + (v % 4).toNat) := h0
  refine ⟨v1, by rw [(h0' _ hpn).1]; exact v2, by rw [(h0' _ hpn).1]; exact v3, by rw [(h0' _ hpn).2 _ v1 v2 v3]; exact v4, ?_⟩
  show ∀ q, q < 216 → gL q = hL q ∧ ∀ w : Int, 1 ≤ w → w ≤ (hL q).toInt → (hL q).toInt - 4 < w → (upd gS (p.toNatClampNeg * 4 + (v.toInt % 4).toNat) t) (q * 4 + (w % 4).toNat) = (upd hS (p.toNatClampNeg * 4 + (v.toInt % 4).toNat) t) (q * 4 + (w % 4).toNat)
  intro q hq
  obtain ⟨g1, g2⟩ := h0' q hq
  refine ⟨g1, fun w w1 w2 w3 => ?_⟩
  rw [upd_r, upd_r]
  split
  · rfl
  · exact g2 w w1 w2 w3
/-- one more entry -/
theorem zLog_a {n : Nat} {S T S' T' : zS} (h : zLog n S T) (hn : n < 512) (p v t x57 x58 x56 y99 y100 : Int32) (hp : zx 216 p) (hv : zn 10000 v) (s85 : S' 8 5 = S 8 5 + 1) (s86 : S' 8 6 = S 8 6) (s55 : S' 55 = upd (S 55) (S 8 5).toNatClampNeg p) (s56 : S' 56 = upd (S 56) (S 8 5).toNatClampNeg x56) (s57 : S' 57 = upd (S 57) (S 8 5).toNatClampNeg x57) (s58 : S' 58 = upd (S 58) (S 8 5).toNatClampNeg x58) (t36 : T' 13 36 = T 13 36 + 1) (t96 : T' 96 = upd (T 96) (T 13 36).toNatClampNeg p) (t97 : T' 97 = upd (T 97) (T 13 36).toNatClampNeg v) (t98 : T' 98 = upd (T 98) (T 13 36).toNatClampNeg t) (t99 : T' 99 = upd (T 99) (T 13 36).toNatClampNeg y99) (t100 : T' 100 = upd (T 100) (T 13 36).toNatClampNeg y100) (hE1 : ¬ x58 = 0 → t = -1 ∧ y99 = x57 ∧ y100 = x58) (hE2 : x58 = 0 → x56 = v ∧ x57 = t ∧ zn 2 t)
    (hrep : zRep (T 13 36).toNatClampNeg (fun k => T 96 k) (fun k => T 97 k) (fun k => T 98 k) (S 59) (S 62) (S 51) (S 54) → zRep ((T 13 36).toNatClampNeg + 1) (fun k => T' 96 k) (fun k => T' 97 k) (fun k => T' 98 k) (S' 59) (S' 62) (S' 51) (S' 54)) : zLog (n + 1) S' T' := by
  unfold zLog at h ⊢
  obtain ⟨h0, h1, h2, h3, h4, h5, h6, h7, h8⟩ := h
  have n0 := h0.1
  have n1 := h0.2
  have n2 := h1.1
  have q1 : (S 8 5 + 1).toInt = (S 8 5).toInt + 1 := by rw [zk_tadd (by rw [zk_1]; omega) (by rw [zk_1]; omega), zk_1]
  have q2 : (S 8 5 - S 8 6).toInt = (S 8 5).toInt - (S 8 6).toInt := zk_tsub (by omega) (by omega)
  have q3 : (T 13 36).toInt = (S 8 5).toInt - (S 8 6).toInt := by rw [h3]; exact q2
  have q4 : (T 13 36 + 1).toInt = (T 13 36).toInt + 1 := by rw [zk_tadd (by rw [zk_1]; omega) (by rw [zk_1]; omega), zk_1]
  have k1 := zk_nat n0
  have k2 := zk_nat n2
  have k3 := zk_nat (x := T 13 36) (by omega)
  have k4 := zk_nat (x := T 13 36 + 1) (by omega)
  have k5 : (T 13 36 + 1).toNatClampNeg = (T 13 36).toNatClampNeg + 1 := by omega
  rw [s85, s86, t36]
  refine ⟨?_, zn_up h1, by omega, ?_, ?_, ?_, ?_, ?_, ?_⟩
  · unfold zn; omega
  · apply zk_eq.mpr
    rw [q4, zk_tsub (by omega) (by omega), q1]; omega
  · rw [s55]
    intro j hj
    rw [upd_r]
    split
    · exact hp
    · exact h4 j hj
  · rw [t96]
    intro j hj
    rw [upd_r]
    split
    · exact hp
    · exact h5 j hj
  · rw [t97]
    intro j hj
    rw [upd_r]
    split
    · exact hv
    · exact h6 j hj
  · intro j hj
    rw [k5] at hj
    unfold zEnt
    rw [s55, s56, s57, s58, t96, t97, t98, t99, t100]
    by_cases ej : j = (T 13 36).toNatClampNeg
    · have ee : (S 8 6).toNatClampNeg + j = (S 8 5).toNatClampNeg := by omega
      rw [ee, ej]
      simp only [upd_r, if_true]
      exact ⟨trivial, hp, hv, hE1, hE2⟩
    · have ee : ¬ (S 8 6).toNatClampNeg + j = (S 8 5).toNatClampNeg := by omega
      simp only [upd_r, if_neg ee, if_neg ej]
      exact h7 j (by omega)
  · rw [k5]
    exact hrep h8
theorem zslot {p v : Int32} (hp : zx 216 p) (hv : 0 ≤ v.toInt) : ((4 * p) + (zrem v 4)).toNatClampNeg = p.toNatClampNeg * 4 + (v.toInt % 4).toNat := by
  have h1 := zx_slot' hp (zn_rem4 hv)
  rw [zx_iff] at hp h1
  have e := zrem_nn (x := v) (y := 4) (by decide) hv
  rw [zk_4] at e
  have e2 : (4 * p).toInt = 4 * p.toInt := by rw [zk_tmul (by rw [zk_4]; omega) (by rw [zk_4]; omega), zk_4]
  have e3 : ((4 * p) + (zrem v 4)).toInt = 4 * p.toInt + v.toInt % 4 := by rw [zk_tadd (by omega) (by omega), e2, e]
  have k1 := zk_nat h1.1
  have k2 := zk_nat hp.1
  omega
theorem zwr0 {n : Nat} {S T : zS} (h : zQ n S T) (hn : n < 512) (a b c : Int32) (ha : zx 216 a) (hb : zn 9999 b) :
    (((G229 (z_up (z_up T 88 a.toNatClampNeg ((T 88 a.toNatClampNeg) + 1)) 89 ((4 * a) + (zrem ((T 88 a.toNatClampNeg) + 1) 4)).toNatClampNeg b)) 88 a.toNatClampNeg)) = (((G19 a 0 b (F41 (T 13 1) S) (G41 (T 13 1) S)) 51 a.toNatClampNeg) + 1) ∧
    zKey (n + 1) (G108 a b (F41 (T 13 1) S) (G19 a 0 b (F41 (T 13 1) S) (G41 (T 13 1) S))) (Gb291_44 a b c ((4 * a) + (zrem ((T 88 a.toNatClampNeg) + 1) 4)) (F229 (z_up (z_up T 88 a.toNatClampNeg ((T 88 a.toNatClampNeg) + 1)) 89 ((4 * a) + (zrem ((T 88 a.toNatClampNeg) + 1) 4)).toNatClampNeg b)) ((4 * a) + (zrem ((T 88 a.toNatClampNeg) + 1) 4)) (G229 (z_up (z_up T 88 a.toNatClampNeg ((T 88 a.toNatClampNeg) + 1)) 89 ((4 * a) + (zrem ((T 88 a.toNatClampNeg) + 1) 4)).toNatClampNeg b))) ∧
    zSto (n + 1) (G108 a b (F41 (T 13 1) S) (G19 a 0 b (F41 (T 13 1) S) (G41 (T 13 1) S))) (Gb291_44 a b c ((4 * a) + (zrem ((T 88 a.toNatClampNeg) + 1) 4)) (F229 (z_up (z_up T 88 a.toNatClampNeg ((T 88 a.toNatClampNeg) + 1)) 89 ((4 * a) + (zrem ((T 88 a.toNatClampNeg) + 1) 4)).toNatClampNeg b)) ((4 * a) + (zrem ((T 88 a.toNatClampNeg) + 1) 4)) (G229 (z_up (z_up T 88 a.toNatClampNeg ((T 88 a.toNatClampNeg) + 1)) 89 ((4 * a) + (zrem ((T 88 a.toNatClampNeg) + 1) 4)).toNatClampNeg b))) ∧
    zLog (n + 1) (G108 a b (F41 (T 13 1) S) (G19 a 0 b (F41 (T 13 1) S) (G41 (T 13 1) S))) (Gb291_44 a b c ((4 * a) + (zrem ((T 88 a.toNatClampNeg) + 1) 4)) (F229 (z_up (z_up T 88 a.toNatClampNeg ((T 88 a.toNatClampNeg) + 1)) 89 ((4 * a) + (zrem ((T 88 a.toNatClampNeg) + 1) 4)).toNatClampNeg b)) ((4 * a) + (zrem ((T 88 a.toNatClampNeg) + 1) 4)) (G229 (z_up (z_up T 88 a.toNatClampNeg ((T 88 a.toNatClampNeg) + 1)) 89 ((4 * a) + (zrem ((T 88 a.toNatClampNeg) + 1) 4)).toNatClampNeg b))) ∧ 0 ≤ (((G19 a 0 b (F41 (T 13 1) S) (G41 (T 13 1) S)) 51 a.toNatClampNeg) + 1).toInt := by
  have hS := zQ_Sto h
  have hLg := zQ_Log h
  have hK := zQ_Key h
  obtain ⟨e51, e53, e54, e52, hver, hnum, hst⟩ := hS
  have han : a.toNatClampNeg < 216 := by rw [zx_iff] at ha; have := zk_nat ha.1; omega
  have hva := hver _ han
  have v1 : (T 88 a.toNatClampNeg + 1).toInt = (T 88 a.toNatClampNeg).toInt + 1 := by
    unfold zn at hva
    rw [zk_tadd (by rw [zk_1]; omega) (by rw [zk_1]; omega), zk_1]
  have hv0 : 0 ≤ (T 88 a.toNatClampNeg + 1).toInt := by have := hva.1; omega
  have hsl := zslot ha hv0
  have hfm := zfm_4 (x := T 88 a.toNatClampNeg + 1) S hv0
  obtain ⟨w1, w2, w3, w4⟩ := zkeep (T := z_up (z_up T 88 a.toNatClampNeg ((T 88 a.toNatClampNeg) + 1)) 89 ((4 * a) + (zrem ((T 88 a.toNatClampNeg) + 1) 4)).toNatClampNeg b) (zKeyN_c (fun i _ => (zupci rfl).trans (zupci rfl)) (fun _ => rfl) rfl (zKeyN_of hK)) (by omega)
  have t131 : (z_up (z_up T 88 a.toNatClampNeg ((T 88 a.toNatClampNeg) + 1)) 89 ((4 * a) + (zrem ((T 88 a.toNatClampNeg) + 1) 4)).toNatClampNeg b) 13 1 = T 13 1 := (zupci rfl).trans (zupci rfl)
  rw [t131] at w1 w2 w4
  have hpS := p_G41 (T 13 1) S
  have hpT := p_G229 (z_up (z_up T 88 a.toNatClampNeg ((T 88 a.toNatClampNeg) + 1)) 89 ((4 * a) + (zrem ((T 88 a.toNatClampNeg) + 1) 4)).toNatClampNeg b)
  rw [w2]
  generalize F229 (z_up (z_up T 88 a.toNatClampNeg ((T 88 a.toNatClampNeg) + 1)) 89 ((4 * a) + (zrem ((T 88 a.toNatClampNeg) + 1) 4)).toNatClampNeg b) = K at *
  generalize hT3 : G229 (z_up (z_up T 88 a.toNatClampNeg ((T 88 a.toNatClampNeg) + 1)) 89 ((4 * a) + (zrem ((T 88 a.toNatClampNeg) + 1) 4)).toNatClampNeg b) = T3 at *
  generalize G41 (T 13 1) S = S2 at *
  have hK1 : ¬ K = 0 := by
    intro e
    have := w1.2.2.2.2.2.2.2.1
    rw [← w3, e] at this
    exact absurd this (by decide)
  have b51 : S2 51 = T 88 := (hpS.1 51 rfl).trans e51
  have b52 : S2 52 = S 52 := hpS.1 52 rfl
  have b53 : S2 53 = T 90 := (hpS.1 53 rfl).trans e53
  have b54 : S2 54 = T 91 := (hpS.1 54 rfl).trans e54
  have b55 : S2 55 = S 55 := hpS.1 55 rfl
  have b56 : S2 56 = S 56 := hpS.1 56 rfl
  have b57 : S2 57 = S 57 := hpS.1 57 rfl
  have b58 : S2 58 = S 58 := hpS.1 58 rfl
  have b59 : S2 59 = S 59 := hpS.1 59 rfl
  have b62 : S2 62 = S 62 := hpS.1 62 rfl
  have b85 : S2 8 5 = S 8 5 := congrFun (hpS.1 8 rfl) 5
  have b86 : S2 8 6 = S 8 6 := congrFun (hpS.1 8 rfl) 6
  have b011 : S2 0 11 = S 0 11 := congrFun (hpS.1 0 rfl) 11
  have d88 : T3 88 = upd (T 88) a.toNatClampNeg ((T 88 a.toNatClampNeg) + 1) := (hpT.1 88 rfl).trans (by rw [zup1, if_neg (by decide), zup1, if_pos rfl])
  have d89 : T3 89 = upd (T 89) ((4 * a) + (zrem ((T 88 a.toNatClampNeg) + 1) 4)).toNatClampNeg b := (hpT.1 89 rfl).trans (by rw [zup1, if_pos rfl, zup1, if_neg (by decide)])
  have dk : ∀ c, zmem [13] c = false → ¬ c = 88 → ¬ c = 89 → T3 c = T c := fun c h1 h2 h3 => (hpT.1 c h1).trans (by rw [zup1, if_neg h3, zup1, if_neg h2])
  have d36 : T3 13 36 = T 13 36 := (hpT.2 13 36 rfl rfl).trans ((zupci rfl).trans (zupci rfl))
  have d90 := dk 90 rfl (by decide) (by decide)
  have d91 := dk 91 rfl (by decide) (by decide)
  have d96 := dk 96 rfl (by decide) (by decide)
  have d97 := dk 97 rfl (by decide) (by decide)
  have d98 := dk 98 rfl (by decide) (by decide)
  have d99 := dk 99 rfl (by decide) (by decide)
  have d100 := dk 100 rfl (by decide) (by decide)
  have hlt : S2 8 5 < 512 := by
    have := hLg.1
    unfold zn at this
    rw [b85, zk_lt, show (512 : Int32).toInt = 512 from rfl]; omega
  unfold G108 G19 Gb291_44
  simp only [if_pos hlt]
  have s51 : (z_up (z_up (z_up (z_up (z_up S2 55 (S2 8 5).toNatClampNeg a) 56 (S2 8 5).toNatClampNeg 0) 57 (S2 8 5).toNatClampNeg b) 58 (S2 8 5).toNatClampNeg K) 8 5 ((S2 8 5) + 1)) 51 = T 88 := by simp only [zup1, b51, Nat.reduceEqDiff, reduceIte, ite_false]
  have hfm2 : ∀ X : zS, F323 (T 88 a.toNatClampNeg + 1) 4 X = zrem (T 88 a.toNatClampNeg + 1) 4 := fun X => zfm_4 X hv0
  rw [s51, hfm2, Int32.mul_comm a 4]
  generalize hpl : ((4 * a) + (zrem ((T 88 a.toNatClampNeg) + 1) 4)).toNatClampNeg = pl at *
  refine ⟨?_, ?_, ?_, ?_, hv0⟩
  · rw [d88, upd_r, if_pos rfl]
  · refine zKeyN_to (N := 1 + 60 * n + 1) (zKeyN_c (S := S2) (T := T3) ?_ ?_ ?_ w1) (by omega) ?_
    · intro i hi
      simp only [zup2, Nat.reduceEqDiff, reduceIte, ite_true, ite_false]
      rw [if_neg (by omega)]
    · intro i; simp only [zup2, Nat.reduceEqDiff, reduceIte, ite_false]
    · simp only [zup2, Nat.reduceEqDiff, reduceIte, ite_false]
    · simp only [zup2, Nat.reduceEqDiff, reduceIte, ite_true, ite_false, w4]
      have := hK.2.2.2.2.2.2.2.1
      unfold zn at *; omega
  · unfold zSto
    simp only [zup2, zup1, b51, b52, b53, b54, d88, d89, d90, d91, Nat.reduceEqDiff, reduceIte, true_and, and_true, ite_true, ite_false, upd_r]
    refine ⟨?_, ?_, ?_, ?_⟩
    · intro i hi
      split
      · rfl
      · rename_i e; rw [if_neg e] at hi; exact e52 i hi
    · intro j hj
      split
      · have := hva; unfold zn at *; omega
      · exact zn_mono (hver j hj) (by omega)
    · intro i
      split
      · exact hb
      · exact hnum i
    · intro i
      split
      · unfold zn; decide
      · exact hst i
  · have hvn : zn 10000 (T 88 a.toNatClampNeg + 1) := by have := hva; unfold zn at *; omega
    refine zLog_a hLg hn a (T 88 a.toNatClampNeg + 1) (-1) b K 0 b K ha hvn ?_ ?_ ?_ ?_ ?_ ?_ ?_ ?_ ?_ ?_ ?_ ?_ (fun _ => ⟨rfl, rfl, rfl⟩) (fun e => absurd e hK1) (fun hrep => ?_)
    · simp only [zup2, b85, Nat.reduceEqDiff, reduceIte, ite_true, ite_false]
    · simp only [zup2, b86, Nat.reduceEqDiff, reduceIte, ite_true, ite_false]
    · simp only [zup1, b85, b55, Nat.reduceEqDiff, reduceIte, ite_true, ite_false]
    · simp only [zup1, b85, b56, Nat.reduceEqDiff, reduceIte, ite_true, ite_false]
    · simp only [zup1, b85, b57, Nat.reduceEqDiff, reduceIte, ite_true, ite_false]
    · simp only [zup1, b85, b58, Nat.reduceEqDiff, reduceIte, ite_true, ite_false]
    · simp only [zup2, d36, Nat.reduceEqDiff, reduceIte, ite_true, ite_false]
    · simp only [zup1, d36, d96, Nat.reduceEqDiff, reduceIte, ite_true, ite_false]
    · simp only [zup1, d36, d97, d88, upd_r, Nat.reduceEqDiff, reduceIte, ite_true, ite_false]
    · simp only [zup1, d36, d98, Nat.reduceEqDiff, reduceIte, ite_true, ite_false]
    · simp only [zup1, d36, d99, Nat.reduceEqDiff, reduceIte, ite_true, ite_false]
    · simp only [zup1, zup2, d36, d100, upd_r, Nat.reduceEqDiff, reduceIte, ite_true, ite_false]
    · simp only [zup1, zup2, d36, d96, d97, d98, d88, b51, b54, b59, b62, upd_r, Nat.reduceEqDiff, reduceIte, ite_true, ite_false]
      rw [e51, e54] at hrep
      rw [hsl]
      exact zRep_w hrep (fun k hk => by simp only [if_neg (show ¬ k = (T 13 36).toNatClampNeg by omega)]; exact ⟨trivial, trivial, trivial⟩) a (T 88 a.toNatClampNeg + 1) ha (if_pos rfl) (if_pos rfl) (if_pos rfl) v1
theorem zwr {n : Nat} {S T : zS} (h : zQ n S T) (hn : n < 512) (a b c : Int32) (ha : zx 216 a) (hb : zn 9999 b) : F291 a b c T = F203 a b c S ∧ zQ (n + 1) (G203 a b c S) (G291 a b c T) ∧ ¬ F203 a b c S = -2 ∧ ¬ F203 a b c S = -3 := by
  obtain ⟨w1, w2, w3, w4, w5⟩ := zwr0 h hn a b c ha hb
  have hE := zQ_Eng h
  have e51 : S 51 = T 88 := (zQ_Sto h).1
  have s11 : S 0 11 = T 13 1 := (zQ_Key h).2.2.2.2.2.2.1
  have m2 : ∀ x : Int32, 0 ≤ x.toInt → ¬ x = -2 ∧ ¬ x = -3 := fun x hx => ⟨fun e => by rw [e] at hx; exact absurd hx (by decide), fun e => by rw [e] at hx; exact absurd hx (by decide)⟩
  have key : F291 a b c T = F203 a b c S ∧ zKey (n + 1) (G203 a b c S) (G291 a b c T) ∧ zSto (n + 1) (G203 a b c S) (G291 a b c T) ∧ zLog (n + 1) (G203 a b c S) (G291 a b c T) ∧ ¬ F203 a b c S = -2 ∧ ¬ F203 a b c S = -3 := by
    unfold F291 F203 G203 G291
    rw [hE.1, e51, s11]
    by_cases c0 : T 84 (a / 36).toNatClampNeg = 0
    rotate_left
    · simp only [if_neg c0]; exact ⟨trivial, zKey_up (zQ_Key h), zSto_up (zQ_Sto h), zLog_up (zQ_Log h), by decide, by decide⟩
    by_cases c1 : c = -1
    · simp only [if_pos c0, if_pos c1]; exact ⟨w1, w2, w3, w4, m2 _ w5⟩
    by_cases c2 : c = T 88 a.toNatClampNeg
    · simp only [if_pos c0, if_neg c1, if_pos c2]; exact ⟨w1, w2, w3, w4, m2 _ w5⟩
    · simp only [if_pos c0, if_neg c1, if_neg c2]; exact ⟨trivial, zKey_up (zQ_Key h), zSto_up (zQ_Sto h), zLog_up (zQ_Log h), by decide, by decide⟩
  exact ⟨key.1, ⟨(zSeal_kc rfl (p_G203 a b c S) (zSeal_km rfl (p_G291 a b c T) (zQ_Seal h))), key.2.1, (zEng_kc rfl (p_G203 a b c S) (zEng_km rfl (p_G291 a b c T) (zQ_Eng h))), (zRul_kc rfl (p_G203 a b c S) (zRul_km rfl (p_G291 a b c T) (zQ_Rul h))), (zPpl_kc rfl (p_G203 a b c S) (zPpl_km rfl (p_G291 a b c T) (zQ_Ppl h))), (zTok_kc rfl (p_G203 a b c S) (zTok_km rfl (p_G291 a b c T) (zQ_Tok h))), (zLea_kc rfl (p_G203 a b c S) (zLea_km rfl (p_G291 a b c T) (zQ_Lea h))), (zLT_kc rfl (p_G203 a b c S) (zLT_km rfl (p_G291 a b c T) (zQ_LT h))), key.2.2.1, (zFar_kc rfl (p_G203 a b c S) (zFar_km rfl (p_G291 a b c T) (zFar_up (zQ_Far h)))), key.2.2.2.1, (zWra_kc rfl (p_G203 a b c S) (zWra_km rfl (p_G291 a b c T) (zQ_Wra h))), (zCas_kc rfl (p_G203 a b c S) (zCas_km rfl (p_G291 a b c T) (zQ_Cas h))), (zCer_kc rfl (p_G203 a b c S) (zCer_km rfl (p_G291 a b c T) (zQ_Cer h))), (zSin_kc rfl (p_G203 a b c S) (zSin_km rfl (p_G291 a b c T) (zQ_Sin h)))⟩, key.2.2.2.2⟩
theorem zer {n : Nat} {S T : zS} (h : zQ n S T) (hn : n < 512) (a b c : Int32) (ha : zx 216 a) (hc : zn 2 c) : F293 a b c T = F204 a b c S ∧ zQ (n + 1) (G204 a b c S) (G293 a b c T) ∧ ¬ F204 a b c S = -2 ∧ ¬ F204 a b c S = -3 := by
  have hE := zQ_Eng h
  have hS := zQ_Sto h
  have hLg := zQ_Log h
  obtain ⟨e51, e53, e54, e52, hver, hnum, hst⟩ := hS
  have han : a.toNatClampNeg < 216 := by rw [zx_iff] at ha; have := zk_nat ha.1; omega
  have hva := hver _ han
  have hlt : S 8 5 < 512 := by
    have := hLg.1
    unfold zn at this
    rw [zk_lt, show (512 : Int32).toInt = 512 from rfl]; omega
  have key : F293 a b c T = F204 a b c S ∧ zSto (n + 1) (G204 a b c S) (G293 a b c T) ∧ zLog (n + 1) (G204 a b c S) (G293 a b c T) ∧ ¬ F204 a b c S = -2 ∧ ¬ F204 a b c S = -3 := by
    have stay : zSto (n + 1) S T ∧ zLog (n + 1) S T := ⟨zSto_up (zQ_Sto h), zLog_up hLg⟩
    unfold F293 F204 G204 G293
    rw [hE.1]
    by_cases c0 : T 84 (a / 36).toNatClampNeg = 0
    rotate_left
    · simp only [if_neg c0]; exact ⟨trivial, stay.1, stay.2, by decide, by decide⟩
    simp only [if_pos c0]
    obtain ⟨k1, k2⟩ := z107 (b := a) (c := b) e51 ha
    rw [k1, e51]
    generalize hvd : (if (b = 0) then ((T 88 a.toNatClampNeg) : Int32) else b) = v at *
    by_cases g : ((¬ (v < 1)) ∧ ((¬ ((T 88 a.toNatClampNeg) < v)) ∧ (¬ (v ≤ ((T 88 a.toNatClampNeg) - 4)))))
    rotate_left
    · simp only [if_neg g, if_true]; exact ⟨trivial, stay.1, stay.2, by decide, by decide⟩
    obtain ⟨q1, q2⟩ := k2 g
    have hsl := zslot (p := a) (v := v) ha (by omega)
    simp only [if_pos g, if_neg (zx_m1 q1)]
    rw [e54]
    by_cases g2 : T 91 ((4 * a) + (zrem v 4)).toNatClampNeg = 2
    · simp only [if_pos g2]; exact ⟨trivial, stay.1, stay.2, by decide, by decide⟩
    simp only [if_neg g2]
    unfold G19
    simp only [if_pos hlt]
    obtain ⟨g3, g4, g5⟩ := g
    rw [zk_lt] at g4
    rw [zk_le] at g5
    have hl4 : (T 88 a.toNatClampNeg - 4).toInt = (T 88 a.toNatClampNeg).toInt - 4 := by
      unfold zn at hva
      rw [zk_tsub (by rw [zk_4]; omega) (by rw [zk_4]; omega), zk_4]
    have hv4 : zn 10000 v := by unfold zn at *; omega
    have hc1 : ¬ c = -1 := zn_m hc (by decide)
    generalize hpl : ((4 * a) + (zrem v 4)).toNatClampNeg = pl at *
    have hA : (z_up (z_up (z_up (z_up (z_up S 55 (S 8 5).toNatClampNeg a) 56 (S 8 5).toNatClampNeg v) 57 (S 8 5).toNatClampNeg c) 58 (S 8 5).toNatClampNeg 0) 8 5 ((S 8 5) + 1)) 54 pl = T 91 pl := by simp only [zup2, e54, Nat.reduceEqDiff, reduceIte, ite_false]
    refine ⟨hA.symm, ?_, ?_, by rw [hA]; exact zn_m (hst pl) (by decide), by rw [hA]; exact zn_m (hst pl) (by decide)⟩
    · by_cases c2 : c = 2
      · simp only [if_pos c2]
        unfold zSto
        simp only [zup2, zup1, e51, e53, e54, Nat.reduceEqDiff, reduceIte, true_and, and_true, ite_true, ite_false, upd_r]
        refine ⟨?_, ?_, ?_, ?_⟩
        · intro i hi
          by_cases ei : i = pl
          · rw [if_pos ei] at hi; exact absurd c2 hi
          · rw [if_neg ei] at hi ⊢; exact e52 i hi
        · intro j hj; exact zn_mono (hver j hj) (by omega)
        · exact hnum
        · intro i
          split
          · exact hc
          · exact hst i
      · simp only [if_neg c2]
        unfold zSto
        simp only [zup2, zup1, e51, e53, e54, Nat.reduceEqDiff, reduceIte, true_and, and_true, ite_true, ite_false, upd_r]
        refine ⟨?_, ?_, ?_, ?_⟩
        · intro i hi
          by_cases ei : i = pl
          · rw [ei]; exact e52 pl g2
          · rw [if_neg ei] at hi; exact e52 i hi
        · intro j hj; exact zn_mono (hver j hj) (by omega)
        · exact hnum
        · intro i
          split
          · exact hc
          · exact hst i
    · have hrp : zRep (T 13 36).toNatClampNeg (fun k => T 96 k) (fun k => T 97 k) (fun k => T 98 k) (S 59) (S 62) (S 51) (S 54) → zRep ((T 13 36).toNatClampNeg + 1) (fun k => if k = (T 13 36).toNatClampNeg then a else T 96 k) (fun k => if k = (T 13 36).toNatClampNeg then v else T 97 k) (fun k => if k = (T 13 36).toNatClampNeg then c else T 98 k) (S 59) (S 62) (S 51) (upd (S 54) pl c) := by
        intro hrep
        rw [hsl]
        refine zRep_e hrep (fun k hk => by simp only [if_neg (show ¬ k = (T 13 36).toNatClampNeg by omega)]; exact ⟨trivial, trivial, trivial⟩) a v c ha (if_pos rfl) (if_pos rfl) (if_pos rfl) hc1 q2 ?_ ?_ ?_
        · rw [e51]; omega
        · rw [e51]; omega
        · rw [← hsl, e54]; exact g2
      by_cases c2 : c = 2
      · simp only [if_pos c2]
        refine zLog_a hLg hn a v c c 0 v 0 0 ha hv4 ?_ ?_ ?_ ?_ ?_ ?_ ?_ ?_ ?_ ?_ ?_ ?_ (fun e => absurd rfl e) (fun _ => ⟨rfl, rfl, hc⟩) (fun hrep => ?_) <;> simp only [zup1, zup2, upd_r, Nat.reduceEqDiff, reduceIte, ite_true, ite_false]
        exact hrp hrep
      · simp only [if_neg c2]
        refine zLog_a hLg hn a v c c 0 v 0 0 ha hv4 ?_ ?_ ?_ ?_ ?_ ?_ ?_ ?_ ?_ ?_ ?_ ?_ (fun e => absurd rfl e) (fun _ => ⟨rfl, rfl, hc⟩) (fun hrep => ?_) <;> simp only [zup1, zup2, upd_r, Nat.reduceEqDiff, reduceIte, ite_true, ite_false]
        exact hrp hrep
  exact ⟨key.1, ⟨(zSeal_kc rfl (p_G204 a b c S) (zSeal_km rfl (p_G293 a b c T) (zQ_Seal h))), (zKey_kc rfl (p_G204 a b c S) (zKey_km rfl (p_G293 a b c T) (zKey_up (zQ_Key h)))), (zEng_kc rfl (p_G204 a b c S) (zEng_km rfl (p_G293 a b c T) (zQ_Eng h))), (zRul_kc rfl (p_G204 a b c S) (zRul_km rfl (p_G293 a b c T) (zQ_Rul h))), (zPpl_kc rfl (p_G204 a b c S) (zPpl_km rfl (p_G293 a b c T) (zQ_Ppl h))), (zTok_kc rfl (p_G204 a b c S) (zTok_km rfl (p_G293 a b c T) (zQ_Tok h))), (zLea_kc rfl (p_G204 a b c S) (zLea_km rfl (p_G293 a b c T) (zQ_Lea h))), (zLT_kc rfl (p_G204 a b c S) (zLT_km rfl (p_G293 a b c T) (zQ_LT h))), key.2.1, (zFar_kc rfl (p_G204 a b c S) (zFar_km rfl (p_G293 a b c T) (zFar_up (zQ_Far h)))), key.2.2.1, (zWra_kc rfl (p_G204 a b c S) (zWra_km rfl (p_G293 a b c T) (zQ_Wra h))), (zCas_kc rfl (p_G204 a b c S) (zCas_km rfl (p_G293 a b c T) (zQ_Cas h))), (zCer_kc rfl (p_G204 a b c S) (zCer_km rfl (p_G293 a b c T) (zQ_Cer h))), (zSin_kc rfl (p_G204 a b c S) (zSin_km rfl (p_G293 a b c T) (zQ_Sin h)))⟩, key.2.2.2⟩
