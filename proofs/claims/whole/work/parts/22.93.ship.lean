/-! shipping (wip/whole/gen/gen93.py) -/
theorem zRepF_le {n : Nat} {lp lv lt hL hS : Nat → Int32} : ∀ r fL fS, (∀ k, k < n → zx 216 (lp k)) → r ≤ n → zRepF n lp lv lt hL hS r fL fS → ∀ p, p < 216 → (fL p).toInt ≤ (hL p).toInt := by
  intro r
  induction r with
  | zero =>
    intro fL fS _ _ h p hp
    have h' : ∀ p, p < 216 → fL p = hL p ∧ ∀ v : Int, 1 ≤ v → v ≤ (hL p).toInt → (hL p).toInt - 4 < v → fS (p * 4 + (v % 4).toNat) = hS (p * 4 + (v % 4).toNat) := h
    rw [(h' p hp).1]; exact Int.le_refl _
  | succ r ih =>
    intro fL fS hx hr h p hp
    rw [zRepF_s] at h
    by_cases c : lt (n - (r + 1)) = -1
    · rw [if_pos c] at h
      have k := ih _ _ hx (by omega) h.2 p hp
      rw [upd_r] at k
      by_cases e : p = (lp (n - (r + 1))).toNatClampNeg
      · rw [if_pos e] at k
        subst e
        have := h.1
        omega
      · rw [if_neg e] at k; exact k
    · rw [if_neg c] at h
      exact ih _ _ hx (by omega) h.2.2.2.2 p hp
theorem zRepF_sh {n m : Nat} {lp lv lt lp' lv' lt' hL hS : Nat → Int32} (hm : m ≤ n) (hag : ∀ k, k < n - m → lp' k = lp (k + m) ∧ lv' k = lv (k + m) ∧ lt' k = lt (k + m)) : ∀ r, r ≤ n - m → ∀ fL fS, zRepF n lp lv lt hL hS r fL fS → zRepF (n - m) lp' lv' lt' hL hS r fL fS := by
  intro r
  induction r with
  | zero => intro _ fL fS h; exact h
  | succ r ih =>
    intro hr fL fS h
    rw [zRepF_s] at h ⊢
    obtain ⟨e1, e2, e3⟩ := hag (n - m - (r + 1)) (by omega)
    have e : n - m - (r + 1) + m = n - (r + 1) := by omega
    rw [e] at e1 e2 e3
    rw [e1, e2, e3]
    by_cases c : lt (n - (r + 1)) = -1
    · rw [if_pos c] at h ⊢
      exact ⟨h.1, ih (by omega) _ _ h.2⟩
    · rw [if_neg c] at h ⊢
      exact ⟨h.1, h.2.1, h.2.2.1, h.2.2.2.1, ih (by omega) _ _ h.2.2.2.2⟩
/-- the entries behind what was shipped move down -/
theorem z90 (x1 x2 : Int32) (m : Nat) (X : zS) (hx : x2 = Int32.ofNat m) : ∀ n, n + m < 3000 → ∀ f, (f = 96 ∨ f = 97 ∨ f = 98 ∨ f = 99 ∨ f = 100) → ∀ i, (zfold (k318_90 x1 x2) m n X) f i = if i < n then X f (i + m) else X f i := by
  intro n
  induction n with
  | zero => intro _ f _ i; rw [if_neg (Nat.not_lt_zero i)]; rfl
  | succ n ih =>
    intro hn f hf i
    have ihn := ih (by omega)
    show (k318_90 x1 x2 (m + n) (zfold (k318_90 x1 x2) m n X)) f i = _
    generalize zfold (k318_90 x1 x2) m n X = Y at ihn
    unfold k318_90
    have hi : (Int32.ofNat (m + n) - x2).toNatClampNeg = n := by rw [hx, zk_subn]; exact zk_ix n (by omega)
    rw [hi]
    have hr : ∀ g, (g = 96 ∨ g = 97 ∨ g = 98 ∨ g = 99 ∨ g = 100) → Y g (m + n) = X g (n + m) := fun g hg => by rw [ihn g hg, if_neg (by omega), Nat.add_comm]
    rw [hr 96 (by simp), hr 97 (by simp), hr 98 (by simp), hr 99 (by simp), hr 100 (by simp)]
    have fin : ∀ v, v = X f (n + m) → (if i = n then v else Y f i) = if i < n + 1 then X f (i + m) else X f i := by
      intro v hv
      by_cases e : i = n
      · rw [if_pos e, if_pos (by omega), hv, e]
      · rw [if_neg e, ihn f hf]
        by_cases e2 : i < n
        · rw [if_pos e2, if_pos (by omega)]
        · rw [if_neg e2, if_neg (by omega)]
    rcases hf with rfl | rfl | rfl | rfl | rfl <;> simp only [zup2, Nat.reduceEqDiff, reduceIte, ite_true, ite_false] <;> exact fin _ rfl
/-- one entry more is far -/
theorem zsh1 {n : Nat} {S T c d : zS} (hL : zLog n S T) (hn : n ≤ 512) (x1 : Int32) (j : Nat) (hj : j < (T 13 36).toNatClampNeg)
    (c85 : c 8 5 = S 8 5) (c86 : (c 8 6).toInt = (S 8 6).toInt + j) (c55 : c 55 = S 55) (c56 : c 56 = S 56) (c57 : c 57 = S 57) (c58 : c 58 = S 58) (d96 : d 96 = T 96) (d97 : d 97 = T 97) (d98 : d 98 = T 98) (d99 : d 99 = T 99) (d100 : d 100 = T 100)
    (e59 : c 59 = d 92) (e61 : c 61 = d 94) (e62 : c 62 = d 95) (e60 : ∀ i, ¬ d 95 i = 2 → c 60 i = d 93 i) (hv : ∀ p, p < 216 → zn n (d 92 p)) (hver : ∀ p, p < 216 → (S 51 p).toInt ≤ n)
    (hr : zRepF (T 13 36).toNatClampNeg (fun k => T 96 k) (fun k => T 97 k) (fun k => T 98 k) (S 51) (S 54) ((T 13 36).toNatClampNeg - j) (c 59) (c 62)) (x2 : Int32) (u : Option zV) :
    (k17_2 x1 j c) 8 5 = S 8 5 ∧ ((k17_2 x1 j c) 8 6).toInt = (S 8 6).toInt + (j + 1 : Nat) ∧ (k17_2 x1 j c) 55 = S 55 ∧ (k17_2 x1 j c) 56 = S 56 ∧ (k17_2 x1 j c) 57 = S 57 ∧ (k17_2 x1 j c) 58 = S 58 ∧
    (k17_2 x1 j c) 59 = (k318_24 x1 x2 j (u, d)).2 92 ∧ (k17_2 x1 j c) 61 = (k318_24 x1 x2 j (u, d)).2 94 ∧ (k17_2 x1 j c) 62 = (k318_24 x1 x2 j (u, d)).2 95 ∧ (∀ i, ¬ (k318_24 x1 x2 j (u, d)).2 95 i = 2 → (k17_2 x1 j c) 60 i = (k318_24 x1 x2 j (u, d)).2 93 i) ∧ (∀ p, p < 216 → zn n ((k318_24 x1 x2 j (u, d)).2 92 p)) ∧
    zRepF (T 13 36).toNatClampNeg (fun k => T 96 k) (fun k => T 97 k) (fun k => T 98 k) (S 51) (S 54) ((T 13 36).toNatClampNeg - (j + 1)) ((k17_2 x1 j c) 59) ((k17_2 x1 j c) 62) := by
  unfold zLog at hL
  obtain ⟨h0, h1, h2, h3, h4, h5, h6, h7, h8⟩ := hL
  have n0 := h0.1
  have n1 := h0.2
  have n2 := h1.1
  have k2 := zk_nat n2
  have hk86 := zk_nat (x := c 8 6) (by omega)
  have hee : (c 8 6).toNatClampNeg = (S 8 6).toNatClampNeg + j := by omega
  have q2 : (S 8 5 - S 8 6).toInt = (S 8 5).toInt - (S 8 6).toInt := zk_tsub (by omega) (by omega)
  have q3 : (T 13 36).toInt = (S 8 5).toInt - (S 8 6).toInt := by rw [h3]; exact q2
  have k3 := zk_nat (x := T 13 36) (by omega)
  have hE := h7 j hj
  unfold zEnt at hE
  obtain ⟨E1, E2, E3, E4, E5⟩ := hE
  have hr2 : (T 13 36).toNatClampNeg - j = (T 13 36).toNatClampNeg - (j + 1) + 1 := by omega
  rw [hr2, zRepF_s] at hr
  have hidx : (T 13 36).toNatClampNeg - ((T 13 36).toNatClampNeg - (j + 1) + 1) = j := by omega
  rw [hidx] at hr
  generalize hrr : (T 13 36).toNatClampNeg - (j + 1) = r at *
  have hp := E2
  have hpn : (T 96 j).toNatClampNeg < 216 := by rw [zx_iff] at hp; have := zk_nat hp.1; omega
  have hxall : ∀ k, k < (T 13 36).toNatClampNeg → zx 216 (T 96 k) := fun k hk => (h7 k hk).2.1
  have g86 : (G21 (c 8 6) c) 8 6 = c 8 6 := (p_G21 (c 8 6) c).2 8 6 rfl rfl
  have g85 : (G21 (c 8 6) c) 8 5 = c 8 5 := (p_G21 (c 8 6) c).2 8 5 rfl rfl
  have g5x : ∀ f, zmem [59, 60, 61, 62] f = false → (G21 (c 8 6) c) f = c f := fun f hf => (p_G21 (c 8 6) c).1 f hf
  have i86 : (c 8 6 + 1).toInt = (S 8 6).toInt + (j + 1 : Nat) := by rw [zk_tadd (by rw [zk_1]; omega) (by rw [zk_1]; omega), zk_1]; omega
  have hG : (G21 (c 8 6) c) 59 = (k318_24 x1 x2 j (u, d)).2 92 ∧ (G21 (c 8 6) c) 61 = (k318_24 x1 x2 j (u, d)).2 94 ∧ (G21 (c 8 6) c) 62 = (k318_24 x1 x2 j (u, d)).2 95 ∧ (∀ i, ¬ (k318_24 x1 x2 j (u, d)).2 95 i = 2 → (G21 (c 8 6) c) 60 i = (k318_24 x1 x2 j (u, d)).2 93 i) ∧ (∀ p, p < 216 → zn n ((k318_24 x1 x2 j (u, d)).2 92 p)) ∧ zRepF (T 13 36).toNatClampNeg (fun k => T 96 k) (fun k => T 97 k) (fun k => T 98 k) (S 51) (S 54) r ((G21 (c 8 6) c) 59) ((G21 (c 8 6) c) 62) := by
    unfold G21 k318_24
    dsimp only
    simp only [hee, c55, c56, c57, c58, d96, d97, d98, d99, d100, E1]
    by_cases cw : T 98 j = -1
    · have c58n : ¬ S 58 ((S 8 6).toNatClampNeg + j) = 0 := fun e => zn_m (E5 e).2.2 (by decide) cw
      obtain ⟨-, f1, f2⟩ := E4 c58n
      rw [if_pos cw] at hr
      obtain ⟨r1, r2⟩ := hr
      rw [e59] at r1
      have hvp := hv _ hpn
      have hv1 : (d 92 (T 96 j).toNatClampNeg + 1).toInt = (d 92 (T 96 j).toNatClampNeg).toInt + 1 := by unfold zn at hvp; rw [zk_tadd (by rw [zk_1]; omega) (by rw [zk_1]; omega), zk_1]
      have hve : d 92 (T 96 j).toNatClampNeg + 1 = T 97 j := zk_eq.mpr (by rw [hv1]; exact r1.symm)
      have hv0 : 0 ≤ (T 97 j).toInt := by have := hvp.1; omega
      have hsl := zslot (p := T 96 j) (v := T 97 j) hp hv0
      have hle := zRepF_le r _ _ hxall (by omega) r2 _ hpn
      rw [upd_r, if_pos rfl] at hle
      rw [if_neg c58n, if_pos cw, if_pos cw]
      unfold G108_9
      rw [e59, hve, zfm_4 c hv0, Int32.mul_comm (T 96 j) 4, f1, f2]
      generalize hpl : (4 * T 96 j + zrem (T 97 j) 4).toNatClampNeg = pl at *
      simp only [zup1, zup2, e59, e61, e62, Nat.reduceEqDiff, reduceIte, true_and, and_true, ite_true, ite_false]
      refine ⟨?_, ?_, ?_⟩
      · intro i hi
        by_cases ei : i = pl
        · rw [if_pos ei, if_pos ei]
        · rw [if_neg ei] at hi ⊢
          rw [if_neg ei]
          exact e60 i hi
      · intro q hq
        by_cases eq : q = (T 96 j).toNatClampNeg
        · rw [if_pos eq]
          have := hver _ hpn
          unfold zn; omega
        · rw [if_neg eq]; exact hv q hq
      · rw [← hsl, e59, e62] at r2
        exact r2
    · rw [if_neg cw] at hr
      obtain ⟨r1, r2, r3, r4, r5⟩ := hr
      have c58z : S 58 ((S 8 6).toNatClampNeg + j) = 0 := Classical.byContradiction (fun e => cw (E4 e).1)
      obtain ⟨f1, f2, f3⟩ := E5 c58z
      have hsl := zslot (p := T 96 j) (v := T 97 j) hp (by omega)
      rw [if_pos c58z, if_neg cw, if_neg cw, f1, f2]
      have hvp := hv _ hpn
      rw [e59] at r2 r3
      have hne0 : ¬ T 97 j = 0 := by intro e; rw [e, zlt_0] at r1; omega
      obtain ⟨k1, k2'⟩ := z1079 (S := c) (T := d) (b := T 96 j) (c := T 97 j) e59 hp
      rw [if_neg hne0] at k1 k2'
      have hl4 : (d 92 (T 96 j).toNatClampNeg - 4).toInt = (d 92 (T 96 j).toNatClampNeg).toInt - 4 := by
        unfold zn at hvp
        rw [zk_tsub (by rw [zk_4]; omega) (by rw [zk_4]; omega), zk_4]
      have hc : ((¬ (T 97 j < 1)) ∧ ((¬ ((d 92 (T 96 j).toNatClampNeg) < T 97 j)) ∧ (¬ (T 97 j ≤ ((d 92 (T 96 j).toNatClampNeg) - 4))))) := by
        rw [zk_lt, zk_lt, zk_le, zk_1, hl4]
        omega
      rw [if_pos hc] at k1
      have hx := (k2' hc).1
      rw [k1, if_neg (zx_m1 hx)]
      rw [e62, ← hsl] at r4
      generalize hpl : (4 * T 96 j + zrem (T 97 j) 4).toNatClampNeg = pl at *
      by_cases c2 : T 98 j = 2
      · simp only [if_pos c2, zup1, zup2, e59, e61, e62, Nat.reduceEqDiff, reduceIte, true_and, and_true, ite_true, ite_false]
        refine ⟨?_, hv, ?_⟩
        · intro i hi
          by_cases ei : i = pl
          · rw [if_pos ei] at hi; exact absurd c2 hi
          · rw [if_neg ei] at hi ⊢
            exact e60 i hi
        · rw [← hsl, e59, e62] at r5
          exact r5
      · simp only [if_neg c2, zup1, zup2, e59, e61, e62, Nat.reduceEqDiff, reduceIte, true_and, and_true, ite_true, ite_false]
        refine ⟨?_, hv, ?_⟩
        · intro i hi
          by_cases ei : i = pl
          · rw [ei]; exact e60 pl r4
          · rw [if_neg ei] at hi
            exact e60 i hi
        · rw [← hsl, e59, e62] at r5
          exact r5
  unfold k17_2
  rw [g86]
  have u : ∀ f, ¬ f = 8 → (z_up (G21 (c 8 6) c) 8 6 (c 8 6 + 1)) f = (G21 (c 8 6) c) f := fun f hf => by rw [zup1, if_neg hf]
  refine ⟨?_, ?_, ?_, ?_, ?_, ?_, ?_, ?_, ?_, ?_, hG.2.2.2.2.1, ?_⟩
  · rw [zup2, if_pos rfl, if_neg (by decide), g85, c85]
  · rw [zup_s]; exact i86
  · rw [u 55 (by decide), g5x 55 rfl, c55]
  · rw [u 56 (by decide), g5x 56 rfl, c56]
  · rw [u 57 (by decide), g5x 57 rfl, c57]
  · rw [u 58 (by decide), g5x 58 rfl, c58]
  · rw [u 59 (by decide)]; exact hG.1
  · rw [u 61 (by decide)]; exact hG.2.1
  · rw [u 62 (by decide)]; exact hG.2.2.1
  · rw [u 60 (by decide)]; exact hG.2.2.2.1
  · rw [u 59 (by decide), u 62 (by decide)]; exact hG.2.2.2.2.2
theorem zrq51 {n : Nat} {S T : zS} (q1 : Int32) (hn : n < 512) (h : zR n S T) : (((G318 q1 T) 13 0) = (F369_0_148 q1 S) ∧ ((F369_0_148 q1 S) = 0 → ((G369_0_148 q1 S) 148 0) = (F318 q1 T))) ∧ zR (n + 1) (G369_0_148 q1 S) (M51 q1 T) := by
  have hQ := zR_Q h
  have hQt := zQ_thr hQ 0
  have hUt := zU_thr (zR_Use h) 0
  show (((G318 q1 T) 13 0) = (F369_0_148 q1 S) ∧ ((F369_0_148 q1 S) = 0 → ((G369_0_148 q1 S) 148 0) = (F318 q1 T))) ∧ zR (n + 1) (G369_0_148 q1 S) (G318 q1 T)
  by_cases hC : (¬ (q1 < 1)) ∧ (¬ (100 < q1))
  rotate_left
  · have eV : (zb (¬ ((¬ (q1 < 1)) ∧ (¬ (100 < q1))))) = 1 := if_pos hC
    have eF : F369_0_148 q1 S = 1 := eV
    have e1 : G318 q1 T = z_up T 13 0 1 := by unfold G318; rw [eV, if_neg (show ¬ ((1 : Int32) = 0) by decide)]
    have e2 : G369_0_148 q1 S = S := by unfold G369_0_148; rw [if_neg hC]
    rw [e1, e2, eF]
    exact ⟨⟨zup_s _ _ _ _, fun e => absurd e (by decide)⟩, zQ_R (zQ_thr (zQ_up hQ) 1) (zU_thr (zR_Use h) 1)⟩
  have eV : (zb (¬ ((¬ (q1 < 1)) ∧ (¬ (100 < q1))))) = 0 := by rw [zb_0]; exact fun w => w hC
  have eF : F369_0_148 q1 S = 0 := eV
  have e1 : G318 q1 T = (z_up (K318_90_S q1 (if ((T 13 36) ≤ q1) then ((T 13 36) : Int32) else q1) (K318_24_c4 q1 (if ((T 13 36) ≤ q1) then ((T 13 36) : Int32) else q1) (none : Option zV) 0 (z_up T 13 0 0)) (if ((T 13 36) ≤ q1) then ((T 13 36) : Int32) else q1).toNatClampNeg (K318_24_S q1 (if ((T 13 36) ≤ q1) then ((T 13 36) : Int32) else q1) (none : Option zV) 0 (z_up T 13 0 0))) 13 36 (((K318_90_S q1 (if ((T 13 36) ≤ q1) then ((T 13 36) : Int32) else q1) (K318_24_c4 q1 (if ((T 13 36) ≤ q1) then ((T 13 36) : Int32) else q1) (none : Option zV) 0 (z_up T 13 0 0)) (if ((T 13 36) ≤ q1) then ((T 13 36) : Int32) else q1).toNatClampNeg (K318_24_S q1 (if ((T 13 36) ≤ q1) then ((T 13 36) : Int32) else q1) (none : Option zV) 0 (z_up T 13 0 0))) 13 36) - (if ((T 13 36) ≤ q1) then ((T 13 36) : Int32) else q1))) := by unfold G318; rw [eV, if_pos rfl]
  have e4 : F318 q1 T = (((K318_90_S q1 (if ((T 13 36) ≤ q1) then ((T 13 36) : Int32) else q1) (K318_24_c4 q1 (if ((T 13 36) ≤ q1) then ((T 13 36) : Int32) else q1) (none : Option zV) 0 (z_up T 13 0 0)) (if ((T 13 36) ≤ q1) then ((T 13 36) : Int32) else q1).toNatClampNeg (K318_24_S q1 (if ((T 13 36) ≤ q1) then ((T 13 36) : Int32) else q1) (none : Option zV) 0 (z_up T 13 0 0))) 13 36) - (if ((T 13 36) ≤ q1) then ((T 13 36) : Int32) else q1)) := by unfold F318; rw [eV, if_pos rfl]
  have e2 : G369_0_148 q1 S = z_up (K17_2_S q1 0 S) 148 0 (((K17_2_S q1 0 S) 8 5) - ((K17_2_S q1 0 S) 8 6)) := by unfold G369_0_148; rw [if_pos hC]
  rw [e1, e2, e4, eF]
  have hq : 1 ≤ q1.toInt ∧ q1.toInt ≤ 100 := by simp only [zk_lt, zk_le, zlt_m1, zlt_0, zlt_1, zlt_2, zlt_3, zlt_4, zlt_5, zlt_6, zlt_7, zlt_8, zlt_9, zlt_10, zlt_15, zlt_16, zlt_20, zlt_24, zlt_30, zlt_36, zlt_39, zlt_40, zlt_50, zlt_72, zlt_100, zlt_199, zlt_200, zlt_215, zlt_216, zlt_255, zlt_256, zlt_1000, zlt_9999, zlt_65535, zlt_1000000000] at hC; omega
  have hqn := zk_nat (x := q1) (by omega)
  have hLg := zQ_Log hQt
  have hFar := zQ_Far hQt
  have hSto := zQ_Sto hQt
  have hLg' := hLg
  have t36 : (z_up T 13 0 0) 13 36 = T 13 36 := zupf rfl
  unfold zLog at hLg'
  obtain ⟨h0, h1, h2, h3, h4, h5, h6, h7, h8⟩ := hLg'
  rw [t36] at h3 h7 h8
  have n0 := h0.1
  have n1 := h0.2
  have n2 := h1.1
  have n3 := h1.2
  have k1 := zk_nat n0
  have k2 := zk_nat n2
  have q2 : (S 8 5 - S 8 6).toInt = (S 8 5).toInt - (S 8 6).toInt := zk_tsub (by omega) (by omega)
  have q3 : (T 13 36).toInt = (S 8 5).toInt - (S 8 6).toInt := by rw [h3]; exact q2
  have k3 := zk_nat (x := T 13 36) (by omega)
  have hMq : 0 ≤ (if ((T 13 36) ≤ q1) then ((T 13 36) : Int32) else q1).toInt ∧ (if ((T 13 36) ≤ q1) then ((T 13 36) : Int32) else q1).toInt ≤ (T 13 36).toInt ∧ (if ((T 13 36) ≤ q1) then ((T 13 36) : Int32) else q1).toNatClampNeg = min (q1.toNatClampNeg - 0) ((S 8 5).toNatClampNeg - (S 8 6).toNatClampNeg) ∧ ((if ((T 13 36) ≤ q1) then ((T 13 36) : Int32) else q1).toNatClampNeg : Int) = (if ((T 13 36) ≤ q1) then ((T 13 36) : Int32) else q1).toInt := by
    by_cases g : T 13 36 ≤ q1
    · rw [if_pos g]; rw [zk_le] at g; omega
    · rw [if_neg g]; rw [zk_le] at g; omega
  have hpS := p_K17_2_S q1 0 S
  have hpT1 := p_K318_24_S q1 (if ((T 13 36) ≤ q1) then ((T 13 36) : Int32) else q1) (none : Option zV) 0 (z_up T 13 0 0)
  have key : ∀ {c : zS} {d : Option zV × zS}, c = K17_2_S q1 0 S → d = K318_24 q1 (if ((T 13 36) ≤ q1) then ((T 13 36) : Int32) else q1) (none : Option zV) 0 (z_up T 13 0 0) → c 8 5 = S 8 5 ∧ (c 8 6).toInt = (S 8 6).toInt + (if ((T 13 36) ≤ q1) then ((T 13 36) : Int32) else q1).toNatClampNeg ∧ c 55 = S 55 ∧ c 56 = S 56 ∧ c 57 = S 57 ∧ c 58 = S 58 ∧ c 59 = d.2 92 ∧ c 61 = d.2 94 ∧ c 62 = d.2 95 ∧ (∀ i, ¬ d.2 95 i = 2 → c 60 i = d.2 93 i) ∧ (∀ p, p < 216 → zn n (d.2 92 p)) ∧ zRepF (T 13 36).toNatClampNeg (fun k => T 96 k) (fun k => T 97 k) (fun k => T 98 k) (S 51) (S 54) ((T 13 36).toNatClampNeg - (if ((T 13 36) ≤ q1) then ((T 13 36) : Int32) else q1).toNatClampNeg) (c 59) (c 62) ∧ zkp [13, 92, 93, 94, 95] [13000] T d.2 := by
    intro c d hc hd
    subst hc hd
    unfold K17_2_S K17_2 K318_24
    rw [← hMq.2.2.1, Nat.sub_zero]
    have hm2 := hMq.2.1
    have hm3 := hMq.2.2.2
    generalize hNN : (if ((T 13 36) ≤ q1) then ((T 13 36) : Int32) else q1).toNatClampNeg = N at *
    have kk := zfold_sim (f := k17_2 q1) (g := k318_24 q1 (if ((T 13 36) ≤ q1) then ((T 13 36) : Int32) else q1)) (i := 0) (n := N) (a := S) (b := ((none : Option zV), z_up T 13 0 0)) (I := fun j (c : zS) (d : Option zV × zS) => c 8 5 = S 8 5 ∧ (c 8 6).toInt = (S 8 6).toInt + j ∧ c 55 = S 55 ∧ c 56 = S 56 ∧ c 57 = S 57 ∧ c 58 = S 58 ∧ c 59 = d.2 92 ∧ c 61 = d.2 94 ∧ c 62 = d.2 95 ∧ (∀ i, ¬ d.2 95 i = 2 → c 60 i = d.2 93 i) ∧ (∀ p, p < 216 → zn n (d.2 92 p)) ∧ zRepF (T 13 36).toNatClampNeg (fun k => T 96 k) (fun k => T 97 k) (fun k => T 98 k) (S 51) (S 54) ((T 13 36).toNatClampNeg - j) (c 59) (c 62) ∧ zkp [13, 92, 93, 94, 95] [13000] T d.2) ⟨rfl, by simp, rfl, rfl, rfl, rfl, hFar.1, hFar.2.1, hFar.2.2.1, hFar.2.2.2.1, hFar.2.2.2.2, h8, zkp_upf zkp_S rfl rfl⟩ (fun j c d hj hI => by
      obtain ⟨i1, i2, i3, i4, i5, i6, i7, i8, i9, i10, i11, i12, i13⟩ := hI
      rw [Nat.zero_add]
      have st := zsh1 (zQ_Log hQ) (by omega) q1 j (by omega) i1 i2 i3 i4 i5 i6 (i13.1 96 rfl) (i13.1 97 rfl) (i13.1 98 rfl) (i13.1 99 rfl) (i13.1 100 rfl) i7 i8 i9 i10 i11 (fun p hp => by rw [hSto.1]; exact (hSto.2.2.2.2.1 p hp).2) i12 (if ((T 13 36) ≤ q1) then ((T 13 36) : Int32) else q1) d.1
      obtain ⟨w1, w2, w3, w4, w5, w6, w7, w8, w9, w10, w11, w12⟩ := st
      refine ⟨w1, w2, w3, w4, w5, w6, w7, w8, w9, w10, w11, w12, ?_⟩
      refine zkp_tr i13 (l2 := [92, 93, 94, 95]) (fl2 := []) ?_ rfl rfl
      unfold k318_24
      exact zkp_up (zkp_ite (zkp_up (zkp_up (zkp_up zkp_S rfl rfl) rfl rfl) rfl rfl) zkp_S) rfl rfl)
    exact kk
  have K := key rfl rfl
  obtain ⟨w1, w2, w3, w4, w5, w6, w7, w8, w9, w10, w11, w12, w13⟩ := K
  have hpS' := hpS
  show (((z_up (K318_90_S q1 (if ((T 13 36) ≤ q1) then ((T 13 36) : Int32) else q1) (K318_24_c4 q1 (if ((T 13 36) ≤ q1) then ((T 13 36) : Int32) else q1) (none : Option zV) 0 (z_up T 13 0 0)) (if ((T 13 36) ≤ q1) then ((T 13 36) : Int32) else q1).toNatClampNeg (K318_24_S q1 (if ((T 13 36) ≤ q1) then ((T 13 36) : Int32) else q1) (none : Option zV) 0 (z_up T 13 0 0))) 13 36 (((K318_90_S q1 (if ((T 13 36) ≤ q1) then ((T 13 36) : Int32) else q1) (K318_24_c4 q1 (if ((T 13 36) ≤ q1) then ((T 13 36) : Int32) else q1) (none : Option zV) 0 (z_up T 13 0 0)) (if ((T 13 36) ≤ q1) then ((T 13 36) : Int32) else q1).toNatClampNeg (K318_24_S q1 (if ((T 13 36) ≤ q1) then ((T 13 36) : Int32) else q1) (none : Option zV) 0 (z_up T 13 0 0))) 13 36) - (if ((T 13 36) ≤ q1) then ((T 13 36) : Int32) else q1))) 13 0 = 0) ∧ ((0 : Int32) = 0 → (z_up (K17_2_S q1 0 S) 148 0 (((K17_2_S q1 0 S) 8 5) - ((K17_2_S q1 0 S) 8 6))) 148 0 = ((K318_90_S q1 (if ((T 13 36) ≤ q1) then ((T 13 36) : Int32) else q1) (K318_24_c4 q1 (if ((T 13 36) ≤ q1) then ((T 13 36) : Int32) else q1) (none : Option zV) 0 (z_up T 13 0 0)) (if ((T 13 36) ≤ q1) then ((T 13 36) : Int32) else q1).toNatClampNeg (K318_24_S q1 (if ((T 13 36) ≤ q1) then ((T 13 36) : Int32) else q1) (none : Option zV) 0 (z_up T 13 0 0))) 13 36) - (if ((T 13 36) ≤ q1) then ((T 13 36) : Int32) else q1))) ∧ _
  have hDa : (K318_24 q1 (if ((T 13 36) ≤ q1) then ((T 13 36) : Int32) else q1) (none : Option zV) 0 (z_up T 13 0 0)).2 = (K318_24_S q1 (if ((T 13 36) ≤ q1) then ((T 13 36) : Int32) else q1) (none : Option zV) 0 (z_up T 13 0 0)) := rfl
  rw [hDa] at w7 w8 w9 w10 w11 w13
  have hDb : zkp [96, 97, 98, 99, 100] [] (K318_24_S q1 (if ((T 13 36) ≤ q1) then ((T 13 36) : Int32) else q1) (none : Option zV) 0 (z_up T 13 0 0)) (K318_90_S q1 (if ((T 13 36) ≤ q1) then ((T 13 36) : Int32) else q1) (K318_24_c4 q1 (if ((T 13 36) ≤ q1) then ((T 13 36) : Int32) else q1) (none : Option zV) 0 (z_up T 13 0 0)) (if ((T 13 36) ≤ q1) then ((T 13 36) : Int32) else q1).toNatClampNeg (K318_24_S q1 (if ((T 13 36) ≤ q1) then ((T 13 36) : Int32) else q1) (none : Option zV) 0 (z_up T 13 0 0))) := p_K318_90_S _ _ _ _ _
  have h13 : ∀ i, (K318_90_S q1 (if ((T 13 36) ≤ q1) then ((T 13 36) : Int32) else q1) (K318_24_c4 q1 (if ((T 13 36) ≤ q1) then ((T 13 36) : Int32) else q1) (none : Option zV) 0 (z_up T 13 0 0)) (if ((T 13 36) ≤ q1) then ((T 13 36) : Int32) else q1).toNatClampNeg (K318_24_S q1 (if ((T 13 36) ≤ q1) then ((T 13 36) : Int32) else q1) (none : Option zV) 0 (z_up T 13 0 0))) 13 i = (K318_24_S q1 (if ((T 13 36) ≤ q1) then ((T 13 36) : Int32) else q1) (none : Option zV) 0 (z_up T 13 0 0)) 13 i := fun i => congrFun (hDb.1 13 rfl) i
  have d36 : (K318_24_S q1 (if ((T 13 36) ≤ q1) then ((T 13 36) : Int32) else q1) (none : Option zV) 0 (z_up T 13 0 0)) 13 36 = T 13 36 := w13.2 13 36 rfl rfl
  have hsh : ∀ f, (f = 96 ∨ f = 97 ∨ f = 98 ∨ f = 99 ∨ f = 100) → ∀ i, (K318_90_S q1 (if ((T 13 36) ≤ q1) then ((T 13 36) : Int32) else q1) (K318_24_c4 q1 (if ((T 13 36) ≤ q1) then ((T 13 36) : Int32) else q1) (none : Option zV) 0 (z_up T 13 0 0)) (if ((T 13 36) ≤ q1) then ((T 13 36) : Int32) else q1).toNatClampNeg (K318_24_S q1 (if ((T 13 36) ≤ q1) then ((T 13 36) : Int32) else q1) (none : Option zV) 0 (z_up T 13 0 0))) f i = if i < (T 13 36).toNatClampNeg - (if ((T 13 36) ≤ q1) then ((T 13 36) : Int32) else q1).toNatClampNeg then T f (i + (if ((T 13 36) ≤ q1) then ((T 13 36) : Int32) else q1).toNatClampNeg) else T f i := by
    intro f hf i
    have e := z90 q1 (if ((T 13 36) ≤ q1) then ((T 13 36) : Int32) else q1) (if ((T 13 36) ≤ q1) then ((T 13 36) : Int32) else q1).toNatClampNeg (K318_24_S q1 (if ((T 13 36) ≤ q1) then ((T 13 36) : Int32) else q1) (none : Option zV) 0 (z_up T 13 0 0)) (zk_of hMq.1).symm (((K318_24_S q1 (if ((T 13 36) ≤ q1) then ((T 13 36) : Int32) else q1) (none : Option zV) 0 (z_up T 13 0 0)) 13 36).toNatClampNeg - (if ((T 13 36) ≤ q1) then ((T 13 36) : Int32) else q1).toNatClampNeg) (by rw [d36]; omega) f hf i
    have eD : (K318_24_S q1 (if ((T 13 36) ≤ q1) then ((T 13 36) : Int32) else q1) (none : Option zV) 0 (z_up T 13 0 0)) f = T f := by rcases hf with rfl | rfl | rfl | rfl | rfl <;> exact w13.1 _ rfl
    unfold K318_90_S K318_90
    rw [e, eD, d36]
  have hm1 := hMq.1
  have hm2 := hMq.2.1
  have hm4 := hMq.2.2.2
  have d0 : (K318_24_S q1 (if ((T 13 36) ≤ q1) then ((T 13 36) : Int32) else q1) (none : Option zV) 0 (z_up T 13 0 0)) 13 0 = 0 := (hpT1.2 13 0 rfl rfl).trans (zup_s _ _ _ _)
  have d22 : ∀ f, zmem [96, 97, 98, 99, 100] f = false → (K318_90_S q1 (if ((T 13 36) ≤ q1) then ((T 13 36) : Int32) else q1) (K318_24_c4 q1 (if ((T 13 36) ≤ q1) then ((T 13 36) : Int32) else q1) (none : Option zV) 0 (z_up T 13 0 0)) (if ((T 13 36) ≤ q1) then ((T 13 36) : Int32) else q1).toNatClampNeg (K318_24_S q1 (if ((T 13 36) ≤ q1) then ((T 13 36) : Int32) else q1) (none : Option zV) 0 (z_up T 13 0 0))) f = (K318_24_S q1 (if ((T 13 36) ≤ q1) then ((T 13 36) : Int32) else q1) (none : Option zV) 0 (z_up T 13 0 0)) f := fun f hf => hDb.1 f hf
  generalize (K318_90_S q1 (if ((T 13 36) ≤ q1) then ((T 13 36) : Int32) else q1) (K318_24_c4 q1 (if ((T 13 36) ≤ q1) then ((T 13 36) : Int32) else q1) (none : Option zV) 0 (z_up T 13 0 0)) (if ((T 13 36) ≤ q1) then ((T 13 36) : Int32) else q1).toNatClampNeg (K318_24_S q1 (if ((T 13 36) ≤ q1) then ((T 13 36) : Int32) else q1) (none : Option zV) 0 (z_up T 13 0 0))) = E2 at *
  generalize (K318_24_S q1 (if ((T 13 36) ≤ q1) then ((T 13 36) : Int32) else q1) (none : Option zV) 0 (z_up T 13 0 0)) = E1 at *
  generalize hMM : (if ((T 13 36) ≤ q1) then ((T 13 36) : Int32) else q1) = mn at *
  have hpS2 : zkp [8, 59, 60, 61, 62] [8006] S (K17_2_S q1 0 S) := zkp_tr zkp_S hpS rfl rfl
  generalize K17_2_S q1 0 S = A at *
  have hpB : zkp [13, 92, 93, 94, 95, 96, 97, 98, 99, 100] [13000, 13036] T (z_up E2 13 36 ((E2 13 36) - mn)) := zkp_upf (zkp_tr (zkp_tr zkp_S w13 rfl rfl) hDb rfl rfl) rfl rfl
  have b36 : (T 13 36 - mn).toInt = (T 13 36).toInt - mn.toInt := zk_tsub (by omega) (by omega)
  have b36n := zk_nat (x := T 13 36 - mn) (by omega)
  have a86 : (A 8 5 - A 8 6) = T 13 36 - mn := by
    apply zk_eq.mpr
    rw [w1, zk_tsub (by omega) (by omega), b36]; omega
  have e36 : E2 13 36 = T 13 36 := (h13 36).trans d36
  have kF : zFar (n + 1) A (z_up E2 13 36 ((E2 13 36) - mn)) := by
    apply zFar_up
    unfold zFar
    rw [zupc rfl, zupc rfl, zupc rfl, zupc rfl, d22 92 rfl, d22 93 rfl, d22 94 rfl, d22 95 rfl]
    exact ⟨w7, w8, w9, w10, w11⟩
  have kL : zLog (n + 1) A (z_up E2 13 36 ((E2 13 36) - mn)) := by
    apply zLog_up
    unfold zLog zEnt
    rw [w1, zup_s, zupc rfl, zupc rfl, zupc rfl, zupc rfl, zupc rfl, w3, w4, w5, w6, e36, hpS2.1 51 rfl, hpS2.1 54 rfl]
    have hnn : (T 13 36 - mn).toNatClampNeg = (T 13 36).toNatClampNeg - mn.toNatClampNeg := by omega
    have ha86 := zk_nat (x := A 8 6) (by omega)
    refine ⟨h0, ?_, by omega, ?_, h4, ?_, ?_, ?_, ?_⟩
    · unfold zn; omega
    · rw [← a86, w1]
    · intro j hj
      rw [hsh 96 (by simp)]
      split
      · exact h5 _ (by omega)
      · exact h5 _ hj
    · intro j hj
      rw [hsh 97 (by simp)]
      split
      · exact h6 _ (by omega)
      · exact h6 _ hj
    · intro j hj
      rw [hnn] at hj
      have he := h7 (j + mn.toNatClampNeg) (by omega)
      unfold zEnt at he
      rw [hsh 96 (by simp), hsh 97 (by simp), hsh 98 (by simp), hsh 99 (by simp), hsh 100 (by simp)]
      simp only [if_pos hj]
      have ei : (A 8 6).toNatClampNeg + j = (S 8 6).toNatClampNeg + (j + mn.toNatClampNeg) := by omega
      rw [ei]
      rw [zupc rfl, zupc rfl, zupc rfl, zupc rfl, zupc rfl] at he
      exact he
    · rw [hnn]
      refine zRepF_sh (n := (T 13 36).toNatClampNeg) (m := mn.toNatClampNeg) (lp := fun k => T 96 k) (lv := fun k => T 97 k) (lt := fun k => T 98 k) (by omega) (fun k hk => ?_) _ (Nat.le_refl _) _ _ w12
      rw [hsh 96 (by simp), hsh 97 (by simp), hsh 98 (by simp), if_pos hk, if_pos hk, if_pos hk]
      exact ⟨rfl, rfl, rfl⟩
  have hQ1 : zQ (n + 1) A (z_up E2 13 36 ((E2 13 36) - mn)) := ⟨(zSeal_kc rfl hpS2 (zSeal_km rfl hpB (zQ_Seal hQ))), (zKey_kc rfl hpS2 (zKey_km rfl hpB (zKey_up (zQ_Key hQ)))), (zEng_kc rfl hpS2 (zEng_km rfl hpB (zQ_Eng hQ))), (zRul_kc rfl hpS2 (zRul_km rfl hpB (zQ_Rul hQ))), (zPpl_kc rfl hpS2 (zPpl_km rfl hpB (zQ_Ppl hQ))), (zTok_kc rfl hpS2 (zTok_km rfl hpB (zQ_Tok hQ))), (zLea_kc rfl hpS2 (zLea_km rfl hpB (zQ_Lea hQ))), (zLT_kc rfl hpS2 (zLT_km rfl hpB (zQ_LT hQ))), (zSto_kc rfl hpS2 (zSto_km rfl hpB (zSto_up (zQ_Sto hQ)))), kF, kL, (zWra_kc rfl hpS2 (zWra_km rfl hpB (zQ_Wra hQ))), (zCas_kc rfl hpS2 (zCas_km rfl hpB (zQ_Cas hQ))), (zCer_kc rfl hpS2 (zCer_km rfl hpB (zQ_Cer hQ))), (zSin_kc rfl hpS2 (zSin_km rfl hpB (zQ_Sin hQ)))⟩
  refine ⟨⟨?_, fun _ => (zup_s _ _ _ _).trans ?_⟩, zQ_R (zQ_out hQ1 _) (zU_out (zUse_kc rfl hpS2 (zUse_km rfl hpB (zR_Use h))) _)⟩
  · rw [zup2, if_pos rfl, if_neg (by decide), h13]; exact d0
  · rw [a86, e36]
theorem zyr51 {n : Nat} {S T : zS} (q1 : Int32) (hn : n < 512) (h : zR n S T) : ((G318 q1 T) 13 0) = (F369_0_148 q1 S) ∧ ((F369_0_148 q1 S) = 0 → ((G369_0_148 q1 S) 148 0) = (F318 q1 T)) := (zrq51 q1 hn h).1
theorem zyt51_Far {n : Nat} {S T : zS} (q1 : Int32) (hn : n < 512) (h : zR n S T) : zFar (n + 1) (G369_0_148 q1 S) (M51 q1 T) := zR_Far (zrq51 q1 hn h).2
theorem zyt51_Log {n : Nat} {S T : zS} (q1 : Int32) (hn : n < 512) (h : zR n S T) : zLog (n + 1) (G369_0_148 q1 S) (M51 q1 T) := zR_Log (zrq51 q1 hn h).2
