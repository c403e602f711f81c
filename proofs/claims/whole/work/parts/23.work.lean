/-! shipping (wip/whole/gen/gen93.py) -/
theorem zRepF_le {n : Nat} {lp lv lt hL hS : Nat → Int32} : ∀ r fL fS, (∀ k, k < n → zx 216 (lp k)) → r ≤ n → zRepF n lp lv lt hL hS r fL fS → ∀ p, p < 216 → (fL p).toInt ≤ (hL p).toInt := by
  intro r
  induction r with
  | zero =>
    intro fL fS _ _ h p hp
    have h' : ∀ p, p < 216 → fL p = hL p ∧ ∀ v : Int, 1 ≤ v → v ≤ (hL p).toInt → (hL p).toInt - 4 < v → fS (p * 4 + (v % 4).toNat) = hS (p * 4 + (v % 4).toNat) := h
    rw [(h' p hp).1]; exact Int.le_refl _
  | succ r ih =>
    intro fL fS hx hr h p hp
    rw [zRepF_s] at h
    by_cases c : lt (n - (r + 1)) = -1
    · rw [if_pos c] at h
      have k := ih _ _ hx (by omega) h.2 p hp
      rw [upd_r] at k
      by_cases e : p = (lp (n - (r + 1))).toNatClampNeg
      · rw [if_pos e] at k
        subst e
        have := h.1
        omega
      · rw [if_neg e] at k; exact k
    · rw [if_neg c] at h
      exact ih _ _ hx (by omega) h.2.2.2.2 p hp
theorem zRepF_sh {n m : Nat} {lp lv lt lp' lv' lt' hL hS : Nat → Int32} (hm : m ≤ n) (hag : ∀ k, k < n - m → lp' k = lp (k + m) ∧ lv' k = lv (k + m) ∧ lt' k = lt (k + m)) : ∀ r, r ≤ n - m → ∀ fL fS, zRepF n lp lv lt hL hS r fL fS → zRepF (n - m) lp' lv' lt' hL hS r fL fS := by
  intro r
  induction r with
  | zero => intro _ fL fS h; exact h
  | succ r ih =>
    intro hr fL fS h
    rw [zRepF_s] at h ⊢
    obtain ⟨e1, e2, e3⟩ := hag (n - m - (r + 1)) (by omega)
    have e : n - m - (r + 1) + m = n - (r + 1) := by omega
    rw [e] at e1 e2 e3
    rw [e1, e2, e3]
    by_cases c : lt (n - (r + 1)) = -1
    · rw [if_pos c] at h ⊢
      exact ⟨h.1, ih (by omega) _ _ h.2⟩
    · rw [if_neg c] at h ⊢
      exact ⟨h.1, h.2.1, h.2.2.1, h.2.2.2.1, ih (by omega) _ _ h.2.2.2.2⟩
/-- the entries behind what was shipped move down -/
theorem z90 (x1 x2 : Int32) (m : Nat) (X : zS) (hx : x2 = Int32.ofNat m) : ∀ n, n + m < 3000 → ∀ f, (f = 96 ∨ f = 97 ∨ f = 98 ∨ f = 99 ∨ f = 100) → ∀ i, (zfold (k318_90 x1 x2) m n X) f i = if i < n then X f (i + m) else X f i := by
  intro n
  induction n with
  | zero => intro _ f _ i; rw [if_neg (Nat.not_lt_zero i)]; rfl
  | succ n ih =>
    intro hn f hf i
    have ihn := ih (by omega)
    show (k318_90 x1 x2 (m + n) (zfold (k318_90 x1 x2) m n X)) f i = _
    generalize zfold (k318_90 x1 x2) m n X = Y at ihn
    unfold k318_90
    have hi : (Int32.ofNat (m + n) - x2).toNatClampNeg = n := by rw [hx, zk_subn]; exact zk_ix n (by omega)
    rw [hi]
    have hr : ∀ g, (g = 96 ∨ g = 97 ∨ g = 98 ∨ g = 99 ∨ g = 100) → Y g (m + n) = X g (n + m) := fun g hg => by rw [ihn g hg, if_neg (by omega), Nat.add_comm]
    rw [hr 96 (by simp), hr 97 (by simp), hr 98 (by simp), hr 99 (by simp), hr 100 (by simp)]
    have fin : ∀ v, v = X f (n + m) → (if i = n then v else Y f i) = if i < n + 1 then X f (i + m) else X f i := by
      intro v hv
      by_cases e : i = n
      · rw [if_pos e, if_pos (by omega), hv, e]
      · rw [if_neg e, ihn f hf]
        by_cases e2 : i < n
        · rw [if_pos e2, if_pos (by omega)]
        · rw [if_neg e2, if_neg (by omega)]
    rcases hf with rfl | rfl | rfl | rfl | rfl <;> simp only [zup2, Nat.reduceEqDiff, reduceIte, ite_true, ite_false] <;> exact fin _ rfl
/-- one entry more is far -/
theorem zsh1 {n : Nat} {S T c d : zS} (hL : zLog n S T) (hn : n ≤ 512) (x1 : Int32) (j : Nat) (hj : j < (T 13 36).toNatClampNeg)
    (c85 : c 8 5 = S 8 5) (c86 : (c 8 6).toInt = (S 8 6).toInt + j) (c55 : c 55 = S 55) (c56 : c 56 = S 56) (c57 : c 57 = S 57) (c58 : c 58 = S 58) (d96 : d 96 = T 96) (d97 : d 97 = T 97) (d98 : d 98 = T 98) (d99 : d 99 = T 99) (d100 : d 100 = T 100)
    (e59 : c 59 = d 92) (e61 : c 61 = d 94) (e62 : c 62 = d 95) (e60 : ∀ i, ¬ d 95 i = 2 → c 60 i = d 93 i) (hv : ∀ p, p < 216 → zn n (d 92 p)) (hver : ∀ p, p < 216 → (S 51 p).toInt ≤ n)
    (hr : zRepF (T 13 36).toNatClampNeg (fun k => T 96 k) (fun k => T 97 k) (fun k => T 98 k) (S 51) (S 54) ((T 13 36).toNatClampNeg - j) (c 59) (c 62)) (x2 : Int32) (u : Option zV) :
    (k17_2 x1 j c) 8 5 = S 8 5 ∧ ((k17_2 x1 j c) 8 6).toInt = (S 8 6).toInt + (j + 1 : Nat) ∧ (k17_2 x1 j c) 55 = S 55 ∧ (k17_2 x1 j c) 56 = S 56 ∧ (k17_2 x1 j c) 57 = S 57 ∧ (k17_2 x1 j c) 58 = S 58 ∧
    (k17_2 x1 j c) 59 = (k318_24 x1 x2 j (u, d)).2 92 ∧ (k17_2 x1 j c) 61 = (k318_24 x1 x2 j (u, d)).2 94 ∧ (k17_2 x1 j c) 62 = (k318_24 x1 x2 j (u, d)).2 95 ∧ (∀ i, ¬ (k318_24 x1 x2 j (u, d)).2 95 i = 2 → (k17_2 x1 j c) 60 i = (k318_24 x1 x2 j (u, d)).2 93 i) ∧ (∀ p, p < 216 → zn n ((k318_24 x1 x2 j (u, d)).2 92 p)) ∧
    zRepF (T 13 36).toNatClampNeg (fun k => T 96 k) (fun k => T 97 k) (fun k => T 98 k) (S 51) (S 54) ((T 13 36).toNatClampNeg - (j + 1)) ((k17_2 x1 j c) 59) ((k17_2 x1 j c) 62) := by
  unfold zLog at hL
  obtain ⟨h0, h1, h2, h3, h4, h5, h6, h7, h8⟩ := hL
  have n0 := h0.1
  have n1 := h0.2
  have n2 := h1.1
  have k2 := zk_nat n2
  have hk86 := zk_nat (x := c 8 6) (by omega)
  have hee : (c 8 6).toNatClampNeg = (S 8 6).toNatClampNeg + j := by omega
  have q2 : (S 8 5 - S 8 6).toInt = (S 8 5).toInt - (S 8 6).toInt := zk_tsub (by omega) (by omega)
  have q3 : (T 13 36).toInt = (S 8 5).toInt - (S 8 6).toInt := by rw [h3]; exact q2
  have k3 := zk_nat (x := T 13 36) (by omega)
  have hE := h7 j hj
  unfold zEnt at hE
  obtain ⟨E1, E2, E3, E4, E5⟩ := hE
  have hr2 : (T 13 36).toNatClampNeg - j = (T 13 36).toNatClampNeg - (j + 1) + 1 := by omega
  rw [hr2, zRepF_s] at hr
  have hidx : (T 13 36).toNatClampNeg - ((T 13 36).toNatClampNeg - (j + 1) + 1) = j := by omega
  rw [hidx] at hr
  generalize hrr : (T 13 36).toNatClampNeg - (j + 1) = r at *
  have hp := E2
  have hpn : (T 96 j).toNatClampNeg < 216 := by rw [zx_iff] at hp; have := zk_nat hp.1; omega
  have hxall : ∀ k, k < (T 13 36).toNatClampNeg → zx 216 (T 96 k) := fun k hk => (h7 k hk).2.1
  have g86 : (G21 (c 8 6) c) 8 6 = c 8 6 := (p_G21 (c 8 6) c).2 8 6 rfl rfl
  have g85 : (G21 (c 8 6) c) 8 5 = c 8 5 := (p_G21 (c 8 6) c).2 8 5 rfl rfl
  have g5x : ∀ f, zmem [59, 60, 61, 62] f = false → (G21 (c 8 6) c) f = c f := fun f hf => (p_G21 (c 8 6) c).1 f hf
  have i86 : (c 8 6 + 1).toInt = (S 8 6).toInt + (j + 1 : Nat) := by rw [zk_tadd (by rw [zk_1]; omega) (by rw [zk_1]; omega), zk_1]; omega
  have hG : (G21 (c 8 6) c) 59 = (k318_24 x1 x2 j (u, d)).2 92 ∧ (G21 (c 8 6) c) 61 = (k318_24 x1 x2 j (u, d)).2 94 ∧ (G21 (c 8 6) c) 62 = (k318_24 x1 x2 j (u, d)).2 95 ∧ (∀ i, ¬ (k318_24 x1 x2 j (u, d)).2 95 i = 2 → (G21 (c 8 6) c) 60 i = (k318_24 x1 x2 j (u, d)).2 93 i) ∧ (∀ p, p < 216 → zn n ((k318_24 x1 x2 j (u, d)).2 92 p)) ∧ zRepF (T 13 36).toNatClampNeg (fun k => T 96 k) (fun k => T 97 k) (fun k => T 98 k) (S 51) (S 54) r ((G21 (c 8 6) c) 59) ((G21 (c 8 6) c) 62) := by
    unfold G21 k318_24
    dsimp only
    simp only [hee, c55, c56, c57, c58, d96, d97, d98, d99, d100, E1]
    by_cases cw : T 98 j = -1
    · have c58n : ¬ S 58 ((S 8 6).toNatClampNeg + j) = 0 := fun e => zn_m (E5 e).2.2 (by decide) cw
      obtain ⟨-, f1, f2⟩ := E4 c58n
      rw [if_pos cw] at hr
      obtain ⟨r1, r2⟩ := hr
      rw [e59] at r1
      have hvp := hv _ hpn
      have hv1 : (d 92 (T 96 j).toNatClampNeg + 1).toInt = (d 92 (T 96 j).toNatClampNeg).toInt + 1 := by unfold zn at hvp; rw [zk_tadd (by rw [zk_1]; omega) (by rw [zk_1]; omega), zk_1]
      have hve : d 92 (T 96 j).toNatClampNeg + 1 = T 97 j := zk_eq.mpr (by rw [hv1]; exact r1.symm)
      have hv0 : 0 ≤ (T 97 j).toInt := by have := hvp.1; omega
      have hsl := zslot (p := T 96 j) (v := T 97 j) hp hv0
      have hle := zRepF_le r _ _ hxall (by omega) r2 _ hpn
      rw [upd_r, if_pos rfl] at hle
      rw [if_neg c58n, if_pos cw, if_pos cw]
      unfold G108_9
      rw [e59, hve, zfm_4 c hv0, Int32.mul_comm (T 96 j) 4, f1, f2]
      generalize hpl : (4 * T 96 j + zrem (T 97 j) 4).toNatClampNeg = pl at *
      simp only [zup1, zup2, e59, e61, e62, Nat.reduceEqDiff, reduceIte, true_and, and_true, ite_true, ite_false]
      refine ⟨?_, ?_, ?_⟩
      · intro i hi
        by_cases ei : i = pl
        · rw [if_pos ei, if_pos ei]
        · rw [if_neg ei] at hi ⊢
          rw [if_neg ei]
          exact e60 i hi
      · intro q hq
        by_cases eq : q = (T 96 j).toNatClampNeg
        · rw [if_pos eq]
          have := hver _ hpn
          unfold zn; omega
        · rw [if_neg eq]; exact hv q hq
      · rw [← hsl, e59, e62] at r2
        exact r2
    · rw [if_neg cw] at hr
      obtain ⟨r1, r2, r3, r4, r5⟩ := hr
      have c58z : S 58 ((S 8 6).toNatClampNeg + j) = 0 := Classical.byContradiction (fun e => cw (E4 e).1)
      obtain ⟨f1, f2, f3⟩ := E5 c58z
      have hsl := zslot (p := T 96 j) (v := T 97 j) hp (by omega)
      rw [if_pos c58z, if_neg cw, if_neg cw, f1, f2]
      have hvp := hv _ hpn
      rw [e59] at r2 r3
      have hne0 : ¬ T 97 j = 0 := by intro e; rw [e, zlt_0] at r1; omega
      obtain ⟨k1, k2'⟩ := z1079 (S := c) (T := d) (b := T 96 j) (c := T 97 j) e59 hp
      rw [if_neg hne0] at k1 k2'
      have hl4 : (d 92 (T 96 j).toNatClampNeg - 4).toInt = (d 92 (T 96 j).toNatClampNeg).toInt - 4 := by
        unfold zn at hvp
        rw [zk_tsub (by rw [zk_4]; omega) (by rw [zk_4]; omega), zk_4]
      have hc : ((¬ (T 97 j < 1)) ∧ ((¬ ((d 92 (T 96 j).toNatClampNeg) < T 97 j)) ∧ (¬ (T 97 j ≤ ((d 92 (T 96 j).toNatClampNeg) - 4))))) := by
        rw [zk_lt, zk_lt, zk_le, zk_1, hl4]
        omega
      rw [if_pos hc] at k1
      have hx := (k2' hc).1
      rw [k1, if_neg (zx_m1 hx)]
      rw [e62, ← hsl] at r4
      generalize hpl : (4 * T 96 j + zrem (T 97 j) 4).toNatClampNeg = pl at *
      by_cases c2 : T 98 j = 2
      · simp only [if_pos c2, zup1, zup2, e59, e61, e62, Nat.reduceEqDiff, reduceIte, true_and, and_true, ite_true, ite_false]
        refine ⟨?_, hv, ?_⟩
        · intro i hi
          by_cases ei : i = pl
          · rw [if_pos ei] at hi; exact absurd c2 hi
          · rw [if_neg ei] at hi ⊢
            exact e60 i hi
        · rw [← hsl, e59, e62] at r5
          exact r5
      · simp only [if_neg c2, zup1, zup2, e59, e61, e62, Nat.reduceEqDiff, reduceIte, true_and, and_true, ite_true, ite_false]
        refine ⟨?_, hv, ?_⟩
        · intro i hi
          by_cases ei : i = pl
          · rw [ei]; exact e60 pl r4
          · rw [if_neg ei] at hi
            exact e60 i hi
        · rw [← hsl, e59, e62] at r5
          exact r5
  unfold k17_2
  rw [g86]
  have u : ∀ f, ¬ f = 8 → (z_up (G21 (c 8 6) c) 8 6 (c 8 6 + 1)) f = (G21 (c 8 6) c) f := fun f hf => by rw [zup1, if_neg hf]
  refine ⟨?_, ?_, ?_, ?_, ?_, ?_, ?_, ?_, ?_, ?_, hG.2.2.2.2.1, ?_⟩
  · rw [zup2, if_pos rfl, if_neg (by decide), g85, c85]
  · rw [zup_s]; exact i86
  · rw [u 55 (by decide), g5x 55 rfl, c55]
  · rw [u 56 (by decide), g5x 56 rfl, c56]
  · rw [u 57 (by decide), g5x 57 rfl, c57]
  · rw [u 58 (by decide), g5x 58 rfl, c58]
  · rw [u 59 (by decide)]; exact hG.1
  · rw [u 61 (by decide)]; exact hG.2.1
  · rw [u 62 (by decide)]; exact hG.2.2.1
  · rw [u 60 (by decide)]; exact hG.2.2.2.1
  · rw [u 59 (by decide), u 62 (by decide)]; exact hG.2.2.2.2.2
theorem zrq51 {n : Nat} {S T : zS} (q1 : Int32) (hn : n < 512) (h : zR n S T) : (((G318 q1 T) 13 0) = (F369_0_148 q1 S) ∧ ((F369_0_148 q1 S) = 0 → ((G369_0_148 q1 S) 148 0) = (F318 q1 T))) ∧ zR (n + 1) (G369_0_148 q1 S) (M51 q1 T) := by
  have hQ := zR_Q h
  have hQt := zQ_thr hQ 0
  have hUt := zU_thr (zR_Use h) 0
  show (((G318 q1 T) 13 0) = (F369_0_148 q1 S) ∧ ((F369_0_148 q1 S) = 0 → ((G369_0_148 q1 S) 148 0) = (F318 q1 T))) ∧ zR (n + 1) (G369_0_148 q1 S) (G318 q1 T)
  by_cases hC : (¬ (q1 < 1)) ∧ (¬ (100 < q1))
  rotate_left
  · have eV : (zb (¬ ((¬ (q1 < 1)) ∧ (¬ (100 < q1))))) = 1 := if_pos hC
    have eF : F369_0_148 q1 S = 1 := eV
    have e1 : G318 q1 T = z_up T 13 0 1 := by unfold G318; rw [eV, if_neg (show ¬ ((1 : Int32) = 0) by decide)]
    have e2 : G369_0_148 q1 S = S := by unfold G369_0_148; rw [if_neg hC]
    rw [e1, e2, eF]
    exact ⟨⟨zup_s _ _ _ _, fun e => absurd e (by decide)⟩, zQ_R (zQ_thr (zQ_up hQ) 1) (zU_thr (zR_Use h) 1)⟩
  have eV : (zb (¬ ((¬ (q1 < 1)) ∧ (¬ (100 < q1))))) = 0 := by rw [zb_0]; exact fun w => w hC
  have eF : F369_0_148 q1 S = 0 := eV
  have e1 : G318 q1 T = (z_up (K318_90_S q1 (if ((T 13 36) ≤ q1) then ((T 13 36) : Int32) else q1) (K318_24_c4 q1 (if ((T 13 36) ≤ q1) then ((T 13 36) : Int32) else q1) (none : Option zV) 0 (z_up T 13 0 0)) (if ((T 13 36) ≤ q1) then ((T 13 36) : Int32) else q1).toNatClampNeg (K318_24_S q1 (if ((T 13 36) ≤ q1) then ((T 13 36) : Int32) else q1) (none : Option zV) 0 (z_up T 13 0 0))) 13 36 (((K318_90_S q1 (if ((T 13 36) ≤ q1) then ((T 13 36) : Int32) else q1) (K318_24_c4 q1 (if ((T 13 36) ≤ q1) then ((T 13 36) : Int32) else q1) (none : Option zV) 0 (z_up T 13 0 0)) (if ((T 13 36) ≤ q1) then ((T 13 36) : Int32) else q1).toNatClampNeg (K318_24_S q1 (if ((T 13 36) ≤ q1) then ((T 13 36) : Int32) else q1) (none : Option zV) 0 (z_up T 13 0 0))) 13 36) - (if ((T 13 36) ≤ q1) then ((T 13 36) : Int32) else q1))) := by unfold G318; rw [eV, if_pos rfl]
  have e4 : F318 q1 T = (((K318_90_S q1 (if ((T 13 36) ≤ q1) then ((T 13 36) : Int32) else q1) (K318_24_c4 q1 (if ((T 13 36) ≤ q1) then ((T 13 36) : Int32) else q1) (none : Option zV) 0 (z_up T 13 0 0)) (if ((T 13 36) ≤ q1) then ((T 13 36) : Int32) else q1).toNatClampNeg (K318_24_S q1 (if ((T 13 36) ≤ q1) then ((T 13 36) : Int32) else q1) (none : Option zV) 0 (z_up T 13 0 0))) 13 36) - (if ((T 13 36) ≤ q1) then ((T 13 36) : Int32) else q1)) := by unfold F318; rw [eV, if_pos rfl]
  have e2 : G369_0_148 q1 S = z_up (K17_2_S q1 0 S) 148 0 (((K17_2_S q1 0 S) 8 5) - ((K17_2_S q1 0 S) 8 6)) := by unfold G369_0_148; rw [if_pos hC]
  rw [e1, e2, e4, eF]
  have hq : 1 ≤ q1.toInt ∧ q1.toInt ≤ 100 := by simp only [zk_lt, zk_le, zlt_m1, zlt_0, zlt_1, zlt_2, zlt_3, zlt_4, zlt_5, zlt_6, zlt_7, zlt_8, zlt_9, zlt_10, zlt_15, zlt_16, zlt_20, zlt_24, zlt_30, zlt_36, zlt_39, zlt_40, zlt_50, zlt_72, zlt_100, zlt_199, zlt_200, zlt_215, zlt_216, zlt_255, zlt_256, zlt_1000, zlt_9999, zlt_65535, zlt_1000000000] at hC; omega
  have hqn := zk_nat (x := q1) (by omega)
  have hLg := zQ_Log hQt
  have hFar := zQ_Far hQt
  have hSto := zQ_Sto hQt
  have hLg' := hLg
  have t36 : (z_up T 13 0 0) 13 36 = T 13 36 := zupf rfl
  unfold zLog at hLg'
  obtain ⟨h0, h1, h2, h3, h4, h5, h6, h7, h8⟩ := hLg'
  rw [t36] at h3 h7 h8
  have n0 := h0.1
  have n1 := h0.2
  have n2 := h1.1
  have n3 := h1.2
  have k1 := zk_nat n0
  have k2 := zk_nat n2
  have q2 : (S 8 5 - S 8 6).toInt = (S 8 5).toInt - (S 8 6).toInt := zk_tsub (by omega) (by omega)
  have q3 : (T 13 36).toInt = (S 8 5).toInt - (S 8 6).toInt := by rw [h3]; exact q2
  have k3 := zk_nat (x := T 13 36) (by omega)
  have hMq : 0 ≤ (if ((T 13 36) ≤ q1) then ((T 13 36) : Int32) else q1).toInt ∧ (if ((T 13 36) ≤ q1) then ((T 13 36) : Int32) else q1).toInt ≤ (T 13 36).toInt ∧ (if ((T 13 36) ≤ q1) then ((T 13 36) : Int32) else q1).toNatClampNeg = min (q1.toNatClampNeg - 0) ((S 8 5).toNatClampNeg - (S 8 6).toNatClampNeg) ∧ ((if ((T 13 36) ≤ q1) then ((T 13 36) : Int32) else q1).toNatClampNeg : Int) = (if ((T 13 36) ≤ q1) then ((T 13 36) : Int32) else q1).toInt := by
    by_cases g : T 13 36 ≤ q1
    · rw [if_pos g]; rw [zk_le] at g; omega
    · rw [if_neg g]; rw [zk_le] at g; omega
  have hpS := p_K17_2_S q1 0 S
  have hpT1 := p_K318_24_S q1 (if ((T 13 36) ≤ q1) then ((T 13 36) : Int32) else q1) (none : Option zV) 0 (z_up T 13 0 0)
  have key : ∀ {c : zS} {d : Option zV × zS}, c = K17_2_S q1 0 S → d = K318_24 q1 (if ((T 13 36) ≤ q1) then ((T 13 36) : Int32) else q1) (none : Option zV) 0 (z_up T 13 0 0) → c 8 5 = S 8 5 ∧ (c 8 6).toInt = (S 8 6).toInt + (if ((T 13 36) ≤ q1) then ((T 13 36) : Int32) else q1).toNatClampNeg ∧ c 55 = S 55 ∧ c 56 = S 56 ∧ c 57 = S 57 ∧ c 58 = S 58 ∧ c 59 = d.2 92 ∧ c 61 = d.2 94 ∧ c 62 = d.2 95 ∧ (∀ i, ¬ d.2 95 i = 2 → c 60 i = d.2 93 i) ∧ (∀ p, p < 216 → zn n (d.2 92 p)) ∧ zRepF (T 13 36).toNatClampNeg (fun k => T 96 k) (fun k => T 97 k) (fun k => T 98 k) (S 51) (S 54) ((T 13 36).toNatClampNeg - (if ((T 13 36) ≤ q1) then ((T 13 36) : Int32) else q1).toNatClampNeg) (c 59) (c 62) ∧ zkp [13, 92, 93, 94, 95] [13000] T d.2 := by
    intro c d hc hd
    subst hc hd
    unfold K17_2_S K17_2 K318_24
    rw [← hMq.2.2.1, Nat.sub_zero]
    have hm2 := hMq.2.1
    have hm3 := hMq.2.2.2
    generalize hNN : (if ((T 13 36) ≤ q1) then ((T 13 36) : Int32) else q1).toNatClampNeg = N at *
    have kk := zfold_sim (f := k17_2 q1) (g := k318_24 q1 (if ((T 13 36) ≤ q1) then ((T 13 36) : Int32) else q1)) (i := 0) (n := N) (a := S) (b := ((none : Option zV), z_up T 13 0 0)) (I := fun j (c : zS) (d : Option zV × zS) => c 8 5 = S 8 5 ∧ (c 8 6).toInt = (S 8 6).toInt + j ∧ c 55 = S 55 ∧ c 56 = S 56 ∧ c 57 = S 57 ∧ c 58 = S 58 ∧ c 59 = d.2 92 ∧ c 61 = d.2 94 ∧ c 62 = d.2 95 ∧ (∀ i, ¬ d.2 95 i = 2 → c 60 i = d.2 93 i) ∧ (∀ p, p < 216 → zn n (d.2 92 p)) ∧ zRepF (T 13 36).toNatClampNeg (fun k => T 96 k) (fun k => T 97 k) (fun k => T 98 k) (S 51) (S 54) ((T 13 36).toNatClampNeg - j) (c 59) (c 62) ∧ zkp [13, 92, 93, 94, 95] [13000] T d.2) ⟨rfl, by simp, rfl, rfl, rfl, rfl, hFar.1, hFar.2.1, hFar.2.2.1, hFar.2.2.2.1, hFar.2.2.2.2, h8, zkp_upf zkp_S rfl rfl⟩ (fun j c d hj hI => by
      obtain ⟨i1, i2, i3, i4, i5, i6, i7, i8, i9, i10, i11, i12, i13⟩ := hI
      rw [Nat.zero_add]
      have st := zsh1 (zQ_Log hQ) (by omega) q1 j (by omega) i1 i2 i3 i4 i5 i6 (i13.1 96 rfl) (i13.1 97 rfl) (i13.1 98 rfl) (i13.1 99 rfl) (i13.1 100 rfl) i7 i8 i9 i10 i11 (fun p hp => by rw [hSto.1]; exact (hSto.2.2.2.2.1 p hp).2) i12 (if ((T 13 36) ≤ q1) then ((T 13 36) : Int32) else q1) d.1
      obtain ⟨w1, w2, w3, w4, w5, w6, w7, w8, w9, w10, w11, w12⟩ := st
      refine ⟨w1, w2, w3, w4, w5, w6, w7, w8, w9, w10, w11, w12, ?_⟩
      refine zkp_tr i13 (l2 := [92, 93, 94, 95]) (fl2 := []) ?_ rfl rfl
      unfold k318_24
      exact zkp_up (zkp_ite (zkp_up (zkp_up (zkp_up zkp_S rfl rfl) rfl rfl) rfl rfl) zkp_S) rfl rfl)
    exact kk
  have K := key rfl rfl
  obtain ⟨w1, w2, w3, w4, w5, w6, w7, w8, w9, w10, w11, w12, w13⟩ := K
  have hpS' := hpS
  show (((z_up (K318_90_S q1 (if ((T 13 36) ≤ q1) then ((T 13 36) : Int32) else q1) (K318_24_c4 q1 (if ((T 13 36) ≤ q1) then ((T 13 36) : Int32) else q1) (none : Option zV) 0 (z_up T 13 0 0)) (if ((T 13 36) ≤ q1) then ((T 13 36) : Int32) else q1).toNatClampNeg (K318_24_S q1 (if ((T 13 36) ≤ q1) then ((T 13 36) : Int32) else q1) (none : Option zV) 0 (z_up T 13 0 0))) 13 36 (((K318_90_S q1 (if ((T 13 36) ≤ q1) then ((T 13 36) : Int32) else q1) (K318_24_c4 q1 (if ((T 13 36) ≤ q1) then ((T 13 36) : Int32) else q1) (none : Option zV) 0 (z_up T 13 0 0)) (if ((T 13 36) ≤ q1) then ((T 13 36) : Int32) else q1).toNatClampNeg (K318_24_S q1 (if ((T 13 36) ≤ q1) then ((T 13 36) : Int32) else q1) (none : Option zV) 0 (z_up T 13 0 0))) 13 36) - (if ((T 13 36) ≤ q1) then ((T 13 36) : Int32) else q1))) 13 0 = 0) ∧ ((0 : Int32) = 0 → (z_up (K17_2_S q1 0 S) 148 0 (((K17_2_S q1 0 S) 8 5) - ((K17_2_S q1 0 S) 8 6))) 148 0 = ((K318_90_S q1 (if ((T 13 36) ≤ q1) then ((T 13 36) : Int32) else q1) (K318_24_c4 q1 (if ((T 13 36) ≤ q1) then ((T 13 36) : Int32) else q1) (none : Option zV) 0 (z_up T 13 0 0)) (if ((T 13 36) ≤ q1) then ((T 13 36) : Int32) else q1).toNatClampNeg (K318_24_S q1 (if ((T 13 36) ≤ q1) then ((T 13 36) : Int32) else q1) (none : Option zV) 0 (z_up T 13 0 0))) 13 36) - (if ((T 13 36) ≤ q1) then ((T 13 36) : Int32) else q1))) ∧ _
  have hDa : (K318_24 q1 (if ((T 13 36) ≤ q1) then ((T 13 36) : Int32) else q1) (none : Option zV) 0 (z_up T 13 0 0)).2 = (K318_24_S q1 (if ((T 13 36) ≤ q1) then ((T 13 36) : Int32) else q1) (none : Option zV) 0 (z_up T 13 0 0)) := rfl
  rw [hDa] at w7 w8 w9 w10 w11 w13
  have hDb : zkp [96, 97, 98, 99, 100] [] (K318_24_S q1 (if ((T 13 36) ≤ q1) then ((T 13 36) : Int32) else q1) (none : Option zV) 0 (z_up T 13 0 0)) (K318_90_S q1 (if ((T 13 36) ≤ q1) then ((T 13 36) : Int32) else q1) (K318_24_c4 q1 (if ((T 13 36) ≤ q1) then ((T 13 36) : Int32) else q1) (none : Option zV) 0 (z_up T 13 0 0)) (if ((T 13 36) ≤ q1) then ((T 13 36) : Int32) else q1).toNatClampNeg (K318_24_S q1 (if ((T 13 36) ≤ q1) then ((T 13 36) : Int32) else q1) (none : Option zV) 0 (z_up T 13 0 0))) := p_K318_90_S _ _ _ _ _
  have h13 : ∀ i, (K318_90_S q1 (if ((T 13 36) ≤ q1) then ((T 13 36) : Int32) else q1) (K318_24_c4 q1 (if ((T 13 36) ≤ q1) then ((T 13 36) : Int32) else q1) (none : Option zV) 0 (z_up T 13 0 0)) (if ((T 13 36) ≤ q1) then ((T 13 36) : Int32) else q1).toNatClampNeg (K318_24_S q1 (if ((T 13 36) ≤ q1) then ((T 13 36) : Int32) else q1) (none : Option zV) 0 (z_up T 13 0 0))) 13 i = (K318_24_S q1 (if ((T 13 36) ≤ q1) then ((T 13 36) : Int32) else q1) (none : Option zV) 0 (z_up T 13 0 0)) 13 i := fun i => congrFun (hDb.1 13 rfl) i
  have d36 : (K318_24_S q1 (if ((T 13 36) ≤ q1) then ((T 13 36) : Int32) else q1) (none : Option zV) 0 (z_up T 13 0 0)) 13 36 = T 13 36 := w13.2 13 36 rfl rfl
  have hsh : ∀ f, (f = 96 ∨ f = 97 ∨ f = 98 ∨ f = 99 ∨ f = 100) → ∀ i, (K318_90_S q1 (if ((T 13 36) ≤ q1) then ((T 13 36) : Int32) else q1) (K318_24_c4 q1 (if ((T 13 36) ≤ q1) then ((T 13 36) : Int32) else q1) (none : Option zV) 0 (z_up T 13 0 0)) (if ((T 13 36) ≤ q1) then ((T 13 36) : Int32) else q1).toNatClampNeg (K318_24_S q1 (if ((T 13 36) ≤ q1) then ((T 13 36) : Int32) else q1) (none : Option zV) 0 (z_up T 13 0 0))) f i = if i < (T 13 36).toNatClampNeg - (if ((T 13 36) ≤ q1) then ((T 13 36) : Int32) else q1).toNatClampNeg then T f (i + (if ((T 13 36) ≤ q1) then ((T 13 36) : Int32) else q1).toNatClampNeg) else T f i := by
    intro f hf i
    have e := z90 q1 (if ((T 13 36) ≤ q1) then ((T 13 36) : Int32) else q1) (if ((T 13 36) ≤ q1) then ((T 13 36) : Int32) else q1).toNatClampNeg (K318_24_S q1 (if ((T 13 36) ≤ q1) then ((T 13 36) : Int32) else q1) (none : Option zV) 0 (z_up T 13 0 0)) (zk_of hMq.1).symm (((K318_24_S q1 (if ((T 13 36) ≤ q1) then ((T 13 36) : Int32) else q1) (none : Option zV) 0 (z_up T 13 0 0)) 13 36).toNatClampNeg - (if ((T 13 36) ≤ q1) then ((T 13 36) : Int32) else q1).toNatClampNeg) (by rw [d36]; omega) f hf i
    have eD : (K318_24_S q1 (if ((T 13 36) ≤ q1) then ((T 13 36) : Int32) else q1) (none : Option zV) 0 (z_up T 13 0 0)) f = T f := by rcases hf with rfl | rfl | rfl | rfl | rfl <;> exact w13.1 _ rfl
    unfold K318_90_S K318_90
    rw [e, eD, d36]
  have hm1 := hMq.1
  have hm2 := hMq.2.1
  have hm4 := hMq.2.2.2
  have d0 : (K318_24_S q1 (if ((T 13 36) ≤ q1) then ((T 13 36) : Int32) else q1) (none : Option zV) 0 (z_up T 13 0 0)) 13 0 = 0 := (hpT1.2 13 0 rfl rfl).trans (zup_s _ _ _ _)
  have d22 : ∀ f, zmem [96, 97, 98, 99, 100] f = false → (K318_90_S q1 (if ((T 13 36) ≤ q1) then ((T 13 36) : Int32) else q1) (K318_24_c4 q1 (if ((T 13 36) ≤ q1) then ((T 13 36) : Int32) else q1) (none : Option zV) 0 (z_up T 13 0 0)) (if ((T 13 36) ≤ q1) then ((T 13 36) : Int32) else q1).toNatClampNeg (K318_24_S q1 (if ((T 13 36) ≤ q1) then ((T 13 36) : Int32) else q1) (none : Option zV) 0 (z_up T 13 0 0))) f = (K318_24_S q1 (if ((T 13 36) ≤ q1) then ((T 13 36) : Int32) else q1) (none : Option zV) 0 (z_up T 13 0 0)) f := fun f hf => hDb.1 f hf
  generalize (K318_90_S q1 (if ((T 13 36) ≤ q1) then ((T 13 36) : Int32) else q1) (K318_24_c4 q1 (if ((T 13 36) ≤ q1) then ((T 13 36) : Int32) else q1) (none : Option zV) 0 (z_up T 13 0 0)) (if ((T 13 36) ≤ q1) then ((T 13 36) : Int32) else q1).toNatClampNeg (K318_24_S q1 (if ((T 13 36) ≤ q1) then ((T 13 36) : Int32) else q1) (none : Option zV) 0 (z_up T 13 0 0))) = E2 at *
  generalize (K318_24_S q1 (if ((T 13 36) ≤ q1) then ((T 13 36) : Int32) else q1) (none : Option zV) 0 (z_up T 13 0 0)) = E1 at *
  generalize hMM : (if ((T 13 36) ≤ q1) then ((T 13 36) : Int32) else q1) = mn at *
  have hpS2 : zkp [8, 59, 60, 61, 62] [8006] S (K17_2_S q1 0 S) := zkp_tr zkp_S hpS rfl rfl
  generalize K17_2_S q1 0 S = A at *
  have hpB : zkp [13, 92, 93, 94, 95, 96, 97, 98, 99, 100] [13000, 13036] T (z_up E2 13 36 ((E2 13 36) - mn)) := zkp_upf (zkp_tr (zkp_tr zkp_S w13 rfl rfl) hDb rfl rfl) rfl rfl
  have b36 : (T 13 36 - mn).toInt = (T 13 36).toInt - mn.toInt := zk_tsub (by omega) (by omega)
  have b36n := zk_nat (x := T 13 36 - mn) (by omega)
  have a86 : (A 8 5 - A 8 6) = T 13 36 - mn := by
    apply zk_eq.mpr
    rw [w1, zk_tsub (by omega) (by omega), b36]; omega
  have e36 : E2 13 36 = T 13 36 := (h13 36).trans d36
  have kF : zFar (n + 1) A (z_up E2 13 36 ((E2 13 36) - mn)) := by
    apply zFar_up
    unfold zFar
    rw [zupc rfl, zupc rfl, zupc rfl, zupc rfl, d22 92 rfl, d22 93 rfl, d22 94 rfl, d22 95 rfl]
    exact ⟨w7, w8, w9, w10, w11⟩
  have kL : zLog (n + 1) A (z_up E2 13 36 ((E2 13 36) - mn)) := by
    apply zLog_up
    unfold zLog zEnt
    rw [w1, zup_s, zupc rfl, zupc rfl, zupc rfl, zupc rfl, zupc rfl, w3, w4, w5, w6, e36, hpS2.1 51 rfl, hpS2.1 54 rfl]
    have hnn : (T 13 36 - mn).toNatClampNeg = (T 13 36).toNatClampNeg - mn.toNatClampNeg := by omega
    have ha86 := zk_nat (x := A 8 6) (by omega)
    refine ⟨h0, ?_, by omega, ?_, h4, ?_, ?_, ?_, ?_⟩
    · unfold zn; omega
    · rw [← a86, w1]
    · intro j hj
      rw [hsh 96 (by simp)]
      split
      · exact h5 _ (by omega)
      · exact h5 _ hj
    · intro j hj
      rw [hsh 97 (by simp)]
      split
      · exact h6 _ (by omega)
      · exact h6 _ hj
    · intro j hj
      rw [hnn] at hj
      have he := h7 (j + mn.toNatClampNeg) (by omega)
      unfold zEnt at he
      rw [hsh 96 (by simp), hsh 97 (by simp), hsh 98 (by simp), hsh 99 (by simp), hsh 100 (by simp)]
      simp only [if_pos hj]
      have ei : (A 8 6).toNatClampNeg + j = (S 8 6).toNatClampNeg + (j + mn.toNatClampNeg) := by omega
      rw [ei]
      rw [zupc rfl, zupc rfl, zupc rfl, zupc rfl, zupc rfl] at he
      exact he
    · rw [hnn]
      refine zRepF_sh (n := (T 13 36).toNatClampNeg) (m := mn.toNatClampNeg) (lp := fun k => T 96 k) (lv := fun k => T 97 k) (lt := fun k => T 98 k) (by omega) (fun k hk => ?_) _ (Nat.le_refl _) _ _ w12
      rw [hsh 96 (by simp), hsh 97 (by simp), hsh 98 (by simp), if_pos hk, if_pos hk, if_pos hk]
      exact ⟨rfl, rfl, rfl⟩
  have hQ1 : zQ (n + 1) A (z_up E2 13 36 ((E2 13 36) - mn)) := ⟨(zSeal_kc rfl hpS2 (zSeal_km rfl hpB (zQ_Seal hQ))), (zKey_kc rfl hpS2 (zKey_km rfl hpB (zKey_up (zQ_Key hQ)))), (zEng_kc rfl hpS2 (zEng_km rfl hpB (zQ_Eng hQ))), (zRul_kc rfl hpS2 (zRul_km rfl hpB (zQ_Rul hQ))), (zPpl_kc rfl hpS2 (zPpl_km rfl hpB (zQ_Ppl hQ))), (zTok_kc rfl hpS2 (zTok_km rfl hpB (zQ_Tok hQ))), (zLea_kc rfl hpS2 (zLea_km rfl hpB (zQ_Lea hQ))), (zLT_kc rfl hpS2 (zLT_km rfl hpB (zQ_LT hQ))), (zSto_kc rfl hpS2 (zSto_km rfl hpB (zSto_up (zQ_Sto hQ)))), kF, kL, (zWra_kc rfl hpS2 (zWra_km rfl hpB (zQ_Wra hQ))), (zCas_kc rfl hpS2 (zCas_km rfl hpB (zQ_Cas hQ))), (zCer_kc rfl hpS2 (zCer_km rfl hpB (zQ_Cer hQ))), (zSin_kc rfl hpS2 (zSin_km rfl hpB (zQ_Sin hQ)))⟩
  refine ⟨⟨?_, fun _ => (zup_s _ _ _ _).trans ?_⟩, zQ_R (zQ_out hQ1 _) (zU_out (zUse_kc rfl hpS2 (zUse_km rfl hpB (zR_Use h))) _)⟩
  · rw [zup2, if_pos rfl, if_neg (by decide), h13]; exact d0
  · rw [a86, e36]
theorem zyr51 {n : Nat} {S T : zS} (q1 : Int32) (hn : n < 512) (h : zR n S T) : ((G318 q1 T) 13 0) = (F369_0_148 q1 S) ∧ ((F369_0_148 q1 S) = 0 → ((G369_0_148 q1 S) 148 0) = (F318 q1 T)) := (zrq51 q1 hn h).1
theorem zyt51_Far {n : Nat} {S T : zS} (q1 : Int32) (hn : n < 512) (h : zR n S T) : zFar (n + 1) (G369_0_148 q1 S) (M51 q1 T) := zR_Far (zrq51 q1 hn h).2
theorem zyt51_Log {n : Nat} {S T : zS} (q1 : Int32) (hn : n < 512) (h : zR n S T) : zLog (n + 1) (G369_0_148 q1 S) (M51 q1 T) := zR_Log (zrq51 q1 hn h).2
/-! mounting and unmounting (wip/whole/gen/gen94.py) -/
theorem zcf51 (x y : Int32) (lo : Nat) (X : zS) : ∀ n i, (zfold (k111_7_2 x y) lo n X) 51 i = if lo ≤ i ∧ i < lo + n then 0 else X 51 i := by
  intro n
  induction n with
  | zero => intro i; rw [if_neg (by omega)]; rfl
  | succ n ih =>
    intro i
    show (z_up (zfold (k111_7_2 x y) lo n X) 51 (lo + n) 0) 51 i = _
    rw [zup2, if_pos rfl, ih]
    by_cases e : i = lo + n
    · rw [if_pos e, if_pos (by omega)]
    · rw [if_neg e]
      by_cases e2 : lo ≤ i ∧ i < lo + n
      · rw [if_pos e2, if_pos (by omega)]
      · rw [if_neg e2, if_neg (by omega)]
theorem zcf59 (x y : Int32) (lo : Nat) (X : zS) : ∀ n i, (zfold (k111_9_2 x y) lo n X) 59 i = if lo ≤ i ∧ i < lo + n then 0 else X 59 i := by
  intro n
  induction n with
  | zero => intro i; rw [if_neg (by omega)]; rfl
  | succ n ih =>
    intro i
    show (z_up (zfold (k111_9_2 x y) lo n X) 59 (lo + n) 0) 59 i = _
    rw [zup2, if_pos rfl, ih]
    by_cases e : i = lo + n
    · rw [if_pos e, if_pos (by omega)]
    · rw [if_neg e]
      by_cases e2 : lo ≤ i ∧ i < lo + n
      · rw [if_pos e2, if_pos (by omega)]
      · rw [if_neg e2, if_neg (by omega)]
theorem zcf88 (x : Int32) (lo : Nat) (X : zS) : ∀ n i, (zfold (k238_4 x) lo n X) 88 i = (if lo ≤ i ∧ i < lo + n then 0 else X 88 i) ∧ (zfold (k238_4 x) lo n X) 92 i = (if lo ≤ i ∧ i < lo + n then 0 else X 92 i) := by
  intro n
  induction n with
  | zero => intro i; rw [if_neg (by omega), if_neg (by omega)]; exact ⟨rfl, rfl⟩
  | succ n ih =>
    intro i
    obtain ⟨i1, i2⟩ := ih i
    show (z_up (z_up (zfold (k238_4 x) lo n X) 88 (lo + n) 0) 92 (lo + n) 0) 88 i = _ ∧ (z_up (z_up (zfold (k238_4 x) lo n X) 88 (lo + n) 0) 92 (lo + n) 0) 92 i = _
    simp only [zup2, i1, i2, Nat.reduceEqDiff, reduceIte, ite_true, ite_false]
    by_cases e : i = lo + n
    · simp only [if_pos e]
      rw [if_pos (by omega), if_pos (by omega)]; exact ⟨rfl, rfl⟩
    · simp only [if_neg e]
      by_cases e2 : lo ≤ i ∧ i < lo + n
      · rw [if_pos e2, if_pos e2, if_pos (by omega), if_pos (by omega)]; exact ⟨rfl, rfl⟩
      · rw [if_neg e2, if_neg e2, if_neg (by omega), if_neg (by omega)]; exact ⟨rfl, rfl⟩
/-- how many are kept -/
def zcn (P : Nat → Bool) : Nat → Nat
  | 0 => 0
  | n + 1 => zcn P n + (if P n = true then 1 else 0)
theorem zcn_le (P : Nat → Bool) : ∀ n, zcn P n ≤ n
  | 0 => Nat.le_refl _
  | n + 1 => by
    have := zcn_le P n
    show zcn P n + (if P n = true then 1 else 0) ≤ n + 1
    split <;> omega
theorem zcn_m (P : Nat → Bool) {k n : Nat} (h : k ≤ n) : zcn P k ≤ zcn P n := by
  induction n with
  | zero => have : k = 0 := by omega
            rw [this]; exact Nat.le_refl _
  | succ n ih =>
    by_cases e : k = n + 1
    · rw [e]; exact Nat.le_refl _
    · exact Nat.le_trans (ih (by omega)) (Nat.le_add_right _ _)
theorem zcn_s (P : Nat → Bool) {k n : Nat} (h : k < n) (hp : P k = true) : zcn P k < zcn P n := by
  have h1 : zcn P (k + 1) ≤ zcn P n := zcn_m P h
  have h2 : zcn P (k + 1) = zcn P k + 1 := by show zcn P k + (if P k = true then 1 else 0) = _; rw [if_pos hp]
  omega
theorem zcn_on (P : Nat → Bool) : ∀ n q, q < zcn P n → ∃ k, k < n ∧ P k = true ∧ zcn P k = q
  | 0, q, h => absurd h (Nat.not_lt_zero q)
  | n + 1, q, h => by
    by_cases e : q < zcn P n
    · obtain ⟨k, h1, h2, h3⟩ := zcn_on P n q e
      exact ⟨k, by omega, h2, h3⟩
    · have h2 : q < zcn P n + (if P n = true then 1 else 0) := h
      by_cases c : P n = true
      · rw [if_pos c] at h2; exact ⟨n, Nat.lt_succ_self n, c, by omega⟩
      · rw [if_neg c] at h2; omega
/-- what holds of a row that is being drawn together from s on, n rounds of it done -/
def zDr (P : Nat → Bool) (s n B : Nat) (X Y : Nat → Int32) : Prop := (∀ k, k < n → P k = true → Y (s + zcn P k) = X (s + k)) ∧ (∀ i, s + zcn P n ≤ i → Y i = X i) ∧ (∀ i, i < B → ∃ i', i' < B ∧ Y i = X i')
theorem zDr_0 (P : Nat → Bool) (s B : Nat) (X : Nat → Int32) : zDr P s 0 B X X := ⟨fun k hk => absurd hk (Nat.not_lt_zero k), fun _ _ => rfl, fun i hi => ⟨i, hi, rfl⟩⟩
theorem zDr_n {P : Nat → Bool} {s n B : Nat} {X Y : Nat → Int32} (h : zDr P s n B X Y) (hp : ¬ P n = true) : zDr P s (n + 1) B X Y := by
  obtain ⟨h1, h2, h3⟩ := h
  have e : zcn P (n + 1) = zcn P n := by show zcn P n + (if P n = true then 1 else 0) = _; rw [if_neg hp]; rfl
  refine ⟨fun k hk hpk => ?_, fun i hi => h2 i (by omega), h3⟩
  by_cases ek : k = n
  · rw [ek] at hpk; exact absurd hpk hp
  · exact h1 k (by omega) hpk
theorem zDr_p {P : Nat → Bool} {s n B : Nat} {X Y : Nat → Int32} (h : zDr P s n B X Y) (hp : P n = true) (hB : s + n < B) : zDr P s (n + 1) B X (upd Y (s + zcn P n) (Y (s + n))) := by
  obtain ⟨h1, h2, h3⟩ := h
  have e : zcn P (n + 1) = zcn P n + 1 := by show zcn P n + (if P n = true then 1 else 0) = _; rw [if_pos hp]
  have hl := zcn_le P n
  refine ⟨fun k hk hpk => ?_, fun i hi => ?_, fun i hi => ?_⟩
  · rw [upd_r]
    by_cases ek : k = n
    · rw [ek, if_pos rfl]; exact h2 _ (by omega)
    · have := zcn_s P (show k < n by omega) hpk
      rw [if_neg (by omega)]; exact h1 k (by omega) hpk
  · rw [upd_r, if_neg (by omega)]; exact h2 i (by omega)
  · rw [upd_r]
    split
    · exact h3 _ hB
    · exact h3 i hi
theorem zDr_c {P : Nat → Bool} {s n B : Nat} {X Y Y' : Nat → Int32} (h : zDr P s n B X Y) (e : Y' = Y) : zDr P s n B X Y' := e ▸ h
/-- the log without the entries of some paths -/
theorem zRepF_f {N : Nat} {lp lv lt lp' lv' lt' hL hS hL0 : Nat → Int32} (P : Nat → Bool) (lo : Nat) (hh : ∀ p, p < 216 → hL0 p = if lo ≤ p ∧ p < lo + 36 then 0 else hL p) (hP : ∀ k, k < N → (P k = true ↔ ¬ (lo ≤ (lp k).toNatClampNeg ∧ (lp k).toNatClampNeg < lo + 36))) (hag : ∀ k, k < N → P k = true → lp' (zcn P k) = lp k ∧ lv' (zcn P k) = lv k ∧ lt' (zcn P k) = lt k) (hx : ∀ k, k < N → zx 216 (lp k)) : ∀ r, r ≤ N → ∀ fL fS fL0 fS0, (∀ p, p < 216 → fL0 p = if lo ≤ p ∧ p < lo + 36 then 0 else fL p) → (∀ p, p < 216 → ¬ (lo ≤ p ∧ p < lo + 36) → ∀ w, w < 4 → fS0 (p * 4 + w) = fS (p * 4 + w)) → zRepF N lp lv lt hL hS r fL fS → zRepF (zcn P N) lp' lv' lt' hL0 hS (zcn P N - zcn P (N - r)) fL0 fS0 := by
  intro r
  induction r with
  | zero =>
    intro _ fL fS fL0 fS0 h1 h2 h
    rw [Nat.sub_zero, Nat.sub_self]
    have h' : ∀ p, p < 216 → fL p = hL p ∧ ∀ v : Int, 1 ≤ v → v ≤ (hL p).toInt → (hL p).toInt - 4 < v → fS (p * 4 + (v % 4).toNat) = hS (p * 4 + (v % 4).toNat) := h
    show ∀ p, p < 216 → fL0 p = hL0 p ∧ ∀ v : Int, 1 ≤ v → v ≤ (hL0 p).toInt → (hL0 p).toInt - 4 < v → fS0 (p * 4 + (v % 4).toNat) = hS (p * 4 + (v % 4).toNat)
    intro p hp
    rw [h1 p hp, hh p hp]
    by_cases c : lo ≤ p ∧ p < lo + 36
    · rw [if_pos c, if_pos c]
      refine ⟨rfl, fun v v1 v2 _ => ?_⟩
      rw [zlt_0] at v2; omega
    · rw [if_neg c, if_neg c]
      obtain ⟨g1, g2⟩ := h' p hp
      refine ⟨g1, fun v v1 v2 v3 => ?_⟩
      rw [h2 p hp c (v % 4).toNat (by omega)]
      exact g2 v v1 v2 v3
  | succ r ih =>
    intro hr fL fS fL0 fS0 h1 h2 h
    rw [zRepF_s] at h
    have ek : N - r = N - (r + 1) + 1 := by omega
    have hkN : N - (r + 1) < N := by omega
    generalize hk : N - (r + 1) = k at *
    have hxk := hx k hkN
    have hpn : (lp k).toNatClampNeg < 216 := by rw [zx_iff] at hxk; have := zk_nat hxk.1; omega
    have hw4 : ((lv k).toInt % 4).toNat < 4 := by omega
    have hPk := hP k hkN
    by_cases c : P k = true
    · have hout := hPk.mp c
      have e1 : zcn P (k + 1) = zcn P k + 1 := by show zcn P k + (if P k = true then 1 else 0) = _; rw [if_pos c]
      have hle : zcn P (k + 1) ≤ zcn P N := zcn_m P (by omega)
      obtain ⟨g1, g2, g3⟩ := hag k hkN c
      have er : zcn P N - zcn P k = (zcn P N - zcn P (k + 1)) + 1 := by omega
      have ei : zcn P N - (zcn P N - zcn P (k + 1) + 1) = zcn P k := by omega
      rw [er, zRepF_s, ei, g1, g2, g3]
      rw [ek] at ih
      have q1 : fL0 (lp k).toNatClampNeg = fL (lp k).toNatClampNeg := by rw [h1 _ hpn, if_neg hout]
      have q2 : fS0 ((lp k).toNatClampNeg * 4 + ((lv k).toInt % 4).toNat) = fS ((lp k).toNatClampNeg * 4 + ((lv k).toInt % 4).toNat) := h2 _ hpn hout _ hw4
      by_cases cw : lt k = -1
      · rw [if_pos cw] at h ⊢
        refine ⟨by rw [q1]; exact h.1, ih (by omega) _ _ _ _ ?_ ?_ h.2⟩
        · intro p hp
          rw [upd_r, upd_r]
          by_cases e : p = (lp k).toNatClampNeg
          · rw [if_pos e, if_pos e, e, if_neg hout]
          · rw [if_neg e, if_neg e]; exact h1 p hp
        · intro p hp hc w hw
          rw [upd_r, upd_r]
          split
          · rfl
          · exact h2 p hp hc w hw
      · rw [if_neg cw] at h ⊢
        refine ⟨h.1, by rw [q1]; exact h.2.1, by rw [q1]; exact h.2.2.1, by rw [q2]; exact h.2.2.2.1, ih (by omega) _ _ _ _ h1 ?_ h.2.2.2.2⟩
        intro p hp hc w hw
        rw [upd_r, upd_r]
        split
        · rfl
        · exact h2 p hp hc w hw
    · have hin : lo ≤ (lp k).toNatClampNeg ∧ (lp k).toNatClampNeg < lo + 36 := Classical.byContradiction (fun w => c (hPk.mpr w))
      have e1 : zcn P (k + 1) = zcn P k := by show zcn P k + (if P k = true then 1 else 0) = _; rw [if_neg c]; rfl
      rw [ek, e1] at ih
      by_cases cw : lt k = -1
      · rw [if_pos cw] at h
        refine ih (by omega) _ _ _ _ ?_ ?_ h.2
        · intro p hp
          rw [upd_r]
          by_cases e : p = (lp k).toNatClampNeg
          · rw [if_pos e, h1 p hp, e, if_pos hin, if_pos hin]
          · rw [if_neg e]; exact h1 p hp
        · intro p hp hc w hw
          rw [upd_r, if_neg (fun e => hc (by omega))]
          exact h2 p hp hc w hw
      · rw [if_neg cw] at h
        refine ih (by omega) _ _ _ _ h1 ?_ h.2.2.2.2
        intro p hp hc w hw
        rw [upd_r, if_neg (fun e => hc (by omega))]
        exact h2 p hp hc w hw
/-- the reference's rows drawn together -/
theorem z27 (a : Int32) (P : Nat → Bool) (X : zS) (hP : ∀ k, k < (X 13 36).toNatClampNeg → (P k = true ↔ ¬ X 96 k / 36 = a)) (hN : (X 13 36).toNatClampNeg < 600) : ∀ n, n ≤ (X 13 36).toNatClampNeg → (zfold (k238_27 a) 0 n ((0 : Int32), X)).1 = Int32.ofNat (zcn P n) ∧ ∀ f, (f = 96 ∨ f = 97 ∨ f = 98 ∨ f = 99 ∨ f = 100) → zDr P 0 n 600 (X f) ((zfold (k238_27 a) 0 n ((0 : Int32), X)).2 f) := by
  intro n
  induction n with
  | zero => intro _; exact ⟨rfl, fun f _ => zDr_0 P 0 600 (X f)⟩
  | succ n ih =>
    intro hn
    obtain ⟨i1, i2⟩ := ih (by omega)
    have hst : zfold (k238_27 a) 0 (n + 1) ((0 : Int32), X) = k238_27 a (0 + n) (zfold (k238_27 a) 0 n ((0 : Int32), X)) := rfl
    rw [hst, Nat.zero_add]
    generalize zfold (k238_27 a) 0 n ((0 : Int32), X) = Y at i1 i2
    unfold k238_27
    dsimp only
    have hl := zcn_le P n
    have hY96 : Y.2 96 n = X 96 n := by
      obtain ⟨-, g, -⟩ := i2 96 (by simp)
      exact g n (by omega)
    have e1 : zcn P (n + 1) = zcn P n + (if P n = true then 1 else 0) := rfl
    rw [hY96, i1]
    by_cases c : P n = true
    · have c' := (hP n (by omega)).mp c
      rw [if_neg c', if_neg c', zk_ix _ (by omega)]
      refine ⟨by rw [e1, if_pos c, zk_add], fun f hf => ?_⟩
      have g := zDr_p (i2 f hf) c (by omega)
      rw [Nat.zero_add, Nat.zero_add] at g
      refine zDr_c g ?_
      rcases hf with rfl | rfl | rfl | rfl | rfl <;> simp only [zup1, zup2, Nat.reduceEqDiff, reduceIte, ite_true, ite_false, hY96]
    · have c' : X 96 n / 36 = a := Classical.byContradiction (fun w => c ((hP n (by omega)).mpr w))
      rw [if_pos c', if_pos c']
      exact ⟨by rw [e1, if_neg c]; rfl, fun f hf => zDr_n (i2 f hf) c⟩
/-- the class's -/
theorem z18 (x1 x2 : Int32) (P : Nat → Bool) (X : zS) (s N : Nat) (hP : ∀ k, k < N → (P k = true ↔ ¬ ((¬ X 55 (s + k) < x1) ∧ (¬ x2 ≤ X 55 (s + k))))) (hN : s + N ≤ 512) : ∀ n, n ≤ N → (zfold (k18_11 x1 x2) s n (Int32.ofNat s, X)).1 = Int32.ofNat (s + zcn P n) ∧ ∀ f, (f = 55 ∨ f = 56 ∨ f = 57 ∨ f = 58) → zDr P s n 512 (X f) ((zfold (k18_11 x1 x2) s n (Int32.ofNat s, X)).2 f) := by
  intro n
  induction n with
  | zero => intro _; exact ⟨rfl, fun f _ => zDr_0 P s 512 (X f)⟩
  | succ n ih =>
    intro hn
    obtain ⟨i1, i2⟩ := ih (by omega)
    have hst : zfold (k18_11 x1 x2) s (n + 1) (Int32.ofNat s, X) = k18_11 x1 x2 (s + n) (zfold (k18_11 x1 x2) s n (Int32.ofNat s, X)) := rfl
    rw [hst]
    generalize zfold (k18_11 x1 x2) s n (Int32.ofNat s, X) = Y at i1 i2
    unfold k18_11
    dsimp only
    have hl := zcn_le P n
    have hY : Y.2 55 (s + n) = X 55 (s + n) := by
      obtain ⟨-, g, -⟩ := i2 55 (by simp)
      exact g _ (by omega)
    have e1 : zcn P (n + 1) = zcn P n + (if P n = true then 1 else 0) := rfl
    have hPn := hP n (by omega)
    have keep : P n = true → Int32.ofNat (s + zcn P n) + 1 = Int32.ofNat (s + zcn P (n + 1)) ∧ ∀ f, (f = 55 ∨ f = 56 ∨ f = 57 ∨ f = 58) → zDr P s (n + 1) 512 (X f) ((G20 (Int32.ofNat (s + n)) (Int32.ofNat (s + zcn P n)) Y.2) f) := by
      intro c
      refine ⟨by rw [e1, if_pos c, zk_add]; rfl, fun f hf => ?_⟩
      have g := zDr_p (i2 f hf) c (by omega)
      refine zDr_c g ?_
      unfold G20
      rw [zk_ix _ (by omega), zk_ix _ (by omega)]
      rcases hf with rfl | rfl | rfl | rfl <;> simp only [zup1, zup2, Nat.reduceEqDiff, reduceIte, ite_true, ite_false]
    rw [hY, i1]
    by_cases c1 : X 55 (s + n) < x1
    · rw [if_pos c1, if_pos c1]
      exact keep (hPn.mpr (fun w => w.1 c1))
    · rw [if_neg c1, if_neg c1]
      by_cases c2 : X 55 (s + n) < x2
      · have c3 : ¬ x2 ≤ X 55 (s + n) := by rw [zk_lt] at c2; rw [zk_le]; omega
        have c : ¬ P n = true := fun w => hPn.mp w ⟨c1, c3⟩
        rw [if_pos c2, if_pos c2]
        exact ⟨by rw [e1, if_neg c]; rfl, fun f hf => zDr_n (i2 f hf) c⟩
      · have c3 : x2 ≤ X 55 (s + n) := by rw [zk_lt] at c2; rw [zk_le]; omega
        rw [if_neg c2, if_neg c2]
        exact keep (hPn.mpr (fun w => w.2 c3))
theorem zun1 {m : Nat} {S T : zS} (h : zR m S T) (hm : m ≤ 512) (a : Int32) (ha : zx 6 a) : zR m (G18 (a * 36) ((a * 36) + 36) (K111_7_2_S (a * 36) ((a * 36) + 36) (a * 36).toNatClampNeg S)) (z_up (K238_27_S a 0 0 (K238_4_S a (36 * a).toNatClampNeg T)) 13 36 (K238_27_c2 a 0 0 (K238_4_S a (36 * a).toNatClampNeg T))) := by
  have hQ := zR_Q h
  have hLg := zQ_Log hQ
  have hLg' := hLg
  have hFar := zQ_Far hQ
  have hSto := zQ_Sto hQ
  unfold zLog at hLg'
  obtain ⟨h0, h1, h2, h3, h4, h5, h6, h7, h8⟩ := hLg'
  have n0 := h0.1
  have n1 := h0.2
  have n2 := h1.1
  have k1 := zk_nat n0
  have k2 := zk_nat n2
  have q2 : (S 8 5 - S 8 6).toInt = (S 8 5).toInt - (S 8 6).toInt := zk_tsub (by omega) (by omega)
  have q3 : (T 13 36).toInt = (S 8 5).toInt - (S 8 6).toInt := by rw [h3]; exact q2
  have k3 := zk_nat (x := T 13 36) (by omega)
  have ha' := ha
  rw [zx_iff] at ha'
  have hna := zk_nat ha'.1
  have e36 : (36 : Int32).toInt = 36 := rfl
  have m1 : (a * 36).toInt = a.toInt * 36 := by rw [zk_tmul (by rw [e36]; omega) (by rw [e36]; omega), e36]
  have m2 : (a * 36 + 36).toInt = a.toInt * 36 + 36 := by rw [zk_tadd (by rw [e36]; omega) (by rw [e36]; omega), m1, e36]
  have mc : 36 * a = a * 36 := Int32.mul_comm _ _
  have nlo : (a * 36).toNatClampNeg = 36 * a.toNatClampNeg := by have := zk_nat (x := a * 36) (by omega); omega
  have nhi : (a * 36 + 36).toNatClampNeg = 36 * a.toNatClampNeg + 36 := by have := zk_nat (x := a * 36 + 36) (by omega); omega
  rw [mc, nlo]
  generalize hlo : 36 * a.toNatClampNeg = lo at *
  -- the stages
  have pS1 := p_K111_7_2_S (a * 36) (a * 36 + 36) lo S
  have s51 : ∀ i, (K111_7_2_S (a * 36) (a * 36 + 36) lo S) 51 i = if lo ≤ i ∧ i < lo + 36 then 0 else S 51 i := by
    intro i
    unfold K111_7_2_S K111_7_2
    rw [zcf51, nhi, show lo + 36 - lo = 36 by omega]
  have pT1 := p_K238_4_S a lo T
  have t88 : ∀ i, (K238_4_S a lo T) 88 i = (if lo ≤ i ∧ i < lo + 36 then 0 else T 88 i) ∧ (K238_4_S a lo T) 92 i = (if lo ≤ i ∧ i < lo + 36 then 0 else T 92 i) := by
    intro i
    unfold K238_4_S K238_4
    have e := zcf88 a lo T (((36 * a) + 36).toNatClampNeg - lo) i
    rw [mc, nhi, show lo + 36 - lo = 36 by omega] at e
    rw [mc, nhi, show lo + 36 - lo = 36 by omega]
    exact e
  generalize K111_7_2_S (a * 36) (a * 36 + 36) lo S = S1 at *
  generalize K238_4_S a lo T = T1 at *
  unfold G18
  rw [nlo]
  have pS2 := p_K111_9_2_S (a * 36) (a * 36 + 36) lo S1
  have s59 : ∀ i, (K111_9_2_S (a * 36) (a * 36 + 36) lo S1) 59 i = if lo ≤ i ∧ i < lo + 36 then 0 else S 59 i := by
    intro i
    unfold K111_9_2_S K111_9_2
    rw [zcf59, nhi, show lo + 36 - lo = 36 by omega, pS1.1 59 rfl]
  generalize K111_9_2_S (a * 36) (a * 36 + 36) lo S1 = S2 at *
  have zS2 : zkp [51, 59] [] S S2 := zkp_tr (zkp_tr zkp_S pS1 rfl rfl) pS2 rfl rfl
  have s51b : ∀ i, S2 51 i = if lo ≤ i ∧ i < lo + 36 then 0 else S 51 i := fun i => by rw [pS2.1 51 rfl]; exact s51 i
  have s85 : S2 8 5 = S 8 5 := zS2.2 8 5 rfl rfl
  have s86 : S2 8 6 = S 8 6 := zS2.2 8 6 rfl rfl
  have t36 : T1 13 36 = T 13 36 := congrFun (pT1.1 13 rfl) 36
  rw [s86]
  -- which entries stay
  have hPP : ∃ P : Nat → Bool, ∀ k, (P k = true ↔ ¬ T 96 k / 36 = a) := ⟨fun k => decide (¬ T 96 k / 36 = a), fun k => decide_eq_true_iff⟩
  obtain ⟨P, hP⟩ := hPP
  have hE : ∀ k, k < (T 13 36).toNatClampNeg → S 55 ((S 8 6).toNatClampNeg + k) = T 96 k ∧ zx 216 (T 96 k) := fun k hk => ⟨(h7 k hk).1, (h7 k hk).2.1⟩
  have hpath : ∀ p : Int32, zx 216 p → (((¬ p < a * 36) ∧ (¬ a * 36 + 36 ≤ p)) ↔ p / 36 = a) := fun p hp => (zpath1 a p ha hp).trans ⟨fun w => w.1, fun w => ⟨w, Or.inl rfl⟩⟩
  have hin : ∀ p : Int32, zx 216 p → ((lo ≤ p.toNatClampNeg ∧ p.toNatClampNeg < lo + 36) ↔ p / 36 = a) := by
    intro p hp
    rw [← hpath p hp, zk_lt, zk_le, m1, m2]
    rw [zx_iff] at hp
    have := zk_nat hp.1
    omega
  have L1 := z18 (a * 36) (a * 36 + 36) P S2 (S 8 6).toNatClampNeg (T 13 36).toNatClampNeg (fun k hk => by
    rw [hP, zS2.1 55 rfl, (hE k hk).1, hpath _ (hE k hk).2]) (by omega) (T 13 36).toNatClampNeg (Nat.le_refl _)
  have L2 := z27 a P T1 (fun k hk => by rw [hP, pT1.1 96 rfl]) (by rw [t36]; omega) (T 13 36).toNatClampNeg (by rw [t36]; exact Nat.le_refl _)
  have hM := zcn_le P (T 13 36).toNatClampNeg
  generalize hMM : zcn P (T 13 36).toNatClampNeg = M at *
  have eS3 : K18_11_S (a * 36) (a * 36 + 36) (S 8 6) (S 8 6).toNatClampNeg S2 = (zfold (k18_11 (a * 36) (a * 36 + 36)) (S 8 6).toNatClampNeg (T 13 36).toNatClampNeg (Int32.ofNat (S 8 6).toNatClampNeg, S2)).2 ∧ K18_11_c3 (a * 36) (a * 36 + 36) (S 8 6) (S 8 6).toNatClampNeg S2 = (zfold (k18_11 (a * 36) (a * 36 + 36)) (S 8 6).toNatClampNeg (T 13 36).toNatClampNeg (Int32.ofNat (S 8 6).toNatClampNeg, S2)).1 := by
    unfold K18_11_S K18_11_c3 K18_11
    rw [s85, zk_of n2, show (S 8 5).toNatClampNeg - (S 8 6).toNatClampNeg = (T 13 36).toNatClampNeg by omega]
    exact ⟨rfl, rfl⟩
  have eT2 : K238_27_S a 0 0 T1 = (zfold (k238_27 a) 0 (T 13 36).toNatClampNeg ((0 : Int32), T1)).2 ∧ K238_27_c2 a 0 0 T1 = (zfold (k238_27 a) 0 (T 13 36).toNatClampNeg ((0 : Int32), T1)).1 := by
    unfold K238_27_S K238_27_c2 K238_27
    rw [t36, Nat.sub_zero]
    exact ⟨rfl, rfl⟩
  have pS3 := p_K18_11_S (a * 36) (a * 36 + 36) (S 8 6) (S 8 6).toNatClampNeg S2
  have pT2 := p_K238_27_S a 0 0 T1
  rw [eS3.1] at pS3
  rw [eT2.1] at pT2
  rw [eS3.1, eS3.2, eT2.1, eT2.2, L1.1, L2.1]
  obtain ⟨-, L1d⟩ := L1
  obtain ⟨-, L2d⟩ := L2
  generalize (zfold (k18_11 (a * 36) (a * 36 + 36)) (S 8 6).toNatClampNeg (T 13 36).toNatClampNeg (Int32.ofNat (S 8 6).toNatClampNeg, S2)).2 = A at *
  generalize (zfold (k238_27 a) 0 (T 13 36).toNatClampNeg ((0 : Int32), T1)).2 = B at *
  have zA1 : zkp [51, 55, 56, 57, 58, 59] [] S A := zkp_tr (zkp_tr zkp_S zS2 rfl rfl) pS3 rfl rfl
  have zA2 : zkp [8, 51, 55, 56, 57, 58, 59] [8005] S (z_up A 8 5 (Int32.ofNat ((S 8 6).toNatClampNeg + M))) := zkp_upf (zkp_tr zkp_S zA1 rfl rfl) rfl rfl
  have zB1 : zkp [88, 92, 96, 97, 98, 99, 100] [] T B := zkp_tr (zkp_tr zkp_S pT1 rfl rfl) pT2 rfl rfl
  have zB2 : zkp [13, 88, 92, 96, 97, 98, 99, 100] [13036] T (z_up B 13 36 (Int32.ofNat M)) := zkp_upf (zkp_tr zkp_S zB1 rfl rfl) rfl rfl
  have a51 : A 51 = B 88 := by
    funext i
    rw [pS3.1 51 rfl, pT2.1 88 rfl, s51b, (t88 i).1, hSto.1]
  have a59 : A 59 = B 92 := by
    funext i
    rw [pS3.1 59 rfl, pT2.1 92 rfl, s59, (t88 i).2, hFar.1]
  have b88 : ∀ p, p < 216 → zn m (B 88 p) := by
    intro p hp
    rw [pT2.1 88 rfl, (t88 p).1]
    split
    · unfold zn; rw [zlt_0]; omega
    · exact hSto.2.2.2.2.1 p hp
  have b92 : ∀ p, p < 216 → zn m (B 92 p) := by
    intro p hp
    rw [pT2.1 92 rfl, (t88 p).2]
    split
    · unfold zn; rw [zlt_0]; omega
    · exact hFar.2.2.2.2 p hp
  have kS : zSto m (z_up A 8 5 (Int32.ofNat ((S 8 6).toNatClampNeg + M))) (z_up B 13 36 (Int32.ofNat M)) := by
    unfold zSto
    rw [zupc rfl, zupc rfl, zupc rfl, zupc rfl, zupc rfl, zupc rfl, zupc rfl, zupc rfl, zA1.1 52 rfl, zA1.1 53 rfl, zA1.1 54 rfl, zB1.1 89 rfl, zB1.1 90 rfl, zB1.1 91 rfl]
    exact ⟨a51, hSto.2.1, hSto.2.2.1, hSto.2.2.2.1, b88, hSto.2.2.2.2.2⟩
  have kF : zFar m (z_up A 8 5 (Int32.ofNat ((S 8 6).toNatClampNeg + M))) (z_up B 13 36 (Int32.ofNat M)) := by
    unfold zFar
    rw [zupc rfl, zupc rfl, zupc rfl, zupc rfl, zupc rfl, zupc rfl, zupc rfl, zupc rfl, zA1.1 60 rfl, zA1.1 61 rfl, zA1.1 62 rfl, zB1.1 93 rfl, zB1.1 94 rfl, zB1.1 95 rfl]
    exact ⟨a59, hFar.2.1, hFar.2.2.1, hFar.2.2.2.1, b92⟩
  have eM : (Int32.ofNat M).toInt = M := zk_ti _ (by omega)
  have eMn : (Int32.ofNat M).toNatClampNeg = M := zk_ix _ (by omega)
  have eL : (Int32.ofNat ((S 8 6).toNatClampNeg + M)).toInt = (S 8 6).toInt + M := by rw [zk_ti _ (by omega)]; omega
  have kL : zLog m (z_up A 8 5 (Int32.ofNat ((S 8 6).toNatClampNeg + M))) (z_up B 13 36 (Int32.ofNat M)) := by
    unfold zLog zEnt
    rw [zup_s, zup_s, show (z_up A 8 5 (Int32.ofNat ((S 8 6).toNatClampNeg + M))) 8 6 = S 8 6 from (zupf rfl).trans (zA1.2 8 6 rfl rfl), zupc rfl, zupc rfl, zupc rfl, zupc rfl, zupc rfl, zupc rfl, zupc rfl, zupc rfl, zupc rfl, zupc rfl, zupc rfl, zupc rfl, zupc rfl, eMn]
    refine ⟨?_, h1, by omega, ?_, ?_, ?_, ?_, ?_, ?_⟩
    · unfold zn; omega
    · apply zk_eq.mpr
      rw [zk_tsub (by omega) (by omega), eL, eM]; omega
    · intro j hj
      obtain ⟨i', q1, q2⟩ := (L1d 55 (by simp)).2.2 j hj
      rw [q2, zS2.1 55 rfl]; exact h4 i' q1
    · intro j hj
      obtain ⟨i', q1, q2⟩ := (L2d 96 (by simp)).2.2 j hj
      rw [q2, pT1.1 96 rfl]; exact h5 i' q1
    · intro j hj
      obtain ⟨i', q1, q2⟩ := (L2d 97 (by simp)).2.2 j hj
      rw [q2, pT1.1 97 rfl]; exact h6 i' q1
    · intro j hj
      rw [← hMM] at hj
      obtain ⟨k, g1, g2, g3⟩ := zcn_on P _ j hj
      have he := h7 k g1
      unfold zEnt at he
      have f96 := (L2d 96 (by simp)).1 k g1 g2
      have f97 := (L2d 97 (by simp)).1 k g1 g2
      have f98 := (L2d 98 (by simp)).1 k g1 g2
      have f99 := (L2d 99 (by simp)).1 k g1 g2
      have f100 := (L2d 100 (by simp)).1 k g1 g2
      have f55 := (L1d 55 (by simp)).1 k g1 g2
      have f56 := (L1d 56 (by simp)).1 k g1 g2
      have f57 := (L1d 57 (by simp)).1 k g1 g2
      have f58 := (L1d 58 (by simp)).1 k g1 g2
      rw [Nat.zero_add, Nat.zero_add, g3] at f96 f97 f98 f99 f100
      rw [g3] at f55 f56 f57 f58
      rw [f96, f97, f98, f99, f100, f55, f56, f57, f58, pT1.1 96 rfl, pT1.1 97 rfl, pT1.1 98 rfl, pT1.1 99 rfl, pT1.1 100 rfl, zS2.1 55 rfl, zS2.1 56 rfl, zS2.1 57 rfl, zS2.1 58 rfl]
      exact he
    · rw [zA1.1 62 rfl, zA1.1 54 rfl]
      have key := zRepF_f (N := (T 13 36).toNatClampNeg) (lp := fun k => T 96 k) (lv := fun k => T 97 k) (lt := fun k => T 98 k) (lp' := fun k => B 96 k) (lv' := fun k => B 97 k) (lt' := fun k => B 98 k) (hL := S 51) (hS := S 54) (hL0 := A 51) P lo (fun p _ => by rw [pS3.1 51 rfl]; exact s51b p) (fun k hk => by rw [hP, hin _ (hE k hk).2]) (fun k hk hpk => by
          have f96 := (L2d 96 (by simp)).1 k hk hpk
          have f97 := (L2d 97 (by simp)).1 k hk hpk
          have f98 := (L2d 98 (by simp)).1 k hk hpk
          rw [Nat.zero_add, Nat.zero_add] at f96 f97 f98
          rw [pT1.1 96 rfl] at f96
          rw [pT1.1 97 rfl] at f97
          rw [pT1.1 98 rfl] at f98
          exact ⟨f96, f97, f98⟩) (fun k hk => (hE k hk).2) (T 13 36).toNatClampNeg (Nat.le_refl _) (S 59) (S 62) (A 59) (S 62) (fun p _ => by rw [pS3.1 59 rfl]; exact s59 p) (fun _ _ _ _ _ => rfl) h8
      rw [Nat.sub_self, hMM] at key
      exact key
  exact zQ_R ⟨(zSeal_kc rfl zA2 (zSeal_km rfl zB2 (zQ_Seal hQ))), (zKey_kc rfl zA2 (zKey_km rfl zB2 (zQ_Key hQ))), (zEng_kc rfl zA2 (zEng_km rfl zB2 (zQ_Eng hQ))), (zRul_kc rfl zA2 (zRul_km rfl zB2 (zQ_Rul hQ))), (zPpl_kc rfl zA2 (zPpl_km rfl zB2 (zQ_Ppl hQ))), (zTok_kc rfl zA2 (zTok_km rfl zB2 (zQ_Tok hQ))), (zLea_kc rfl zA2 (zLea_km rfl zB2 (zQ_Lea hQ))), (zLT_kc rfl zA2 (zLT_km rfl zB2 (zQ_LT hQ))), kS, kF, kL, (zWra_kc rfl zA2 (zWra_km rfl zB2 (zQ_Wra hQ))), (zCas_kc rfl zA2 (zCas_km rfl zB2 (zQ_Cas hQ))), (zCer_kc rfl zA2 (zCer_km rfl zB2 (zQ_Cer hQ))), (zSin_kc rfl zA2 (zSin_km rfl zB2 (zQ_Sin hQ)))⟩ (zUse_kc rfl zA2 (zUse_km rfl zB2 (zR_Use h)))
theorem zun3 {m : Nat} {S T : zS} (h : zR m S T) (a x u : Int32) (ha : zx 6 a) : zR m (K35_2_S (a * 36) ((a * 36) + 36) 0 S) (K238_74_S a x u 0 T) := by
  have hQ := zR_Q h
  have hC := zQ_Cas hQ
  have pS := p_K35_2_S (a * 36) ((a * 36) + 36) 0 S
  have pT := p_K238_74_S a x u 0 T
  have kC : zCas (K35_2_S (a * 36) ((a * 36) + 36) 0 S) (K238_74_S a x u 0 T) := by
    unfold K35_2_S K35_2 K238_74_S K238_74
    rw [hC.1]
    have hcl := zn_cl hC.2.2.2.2.2.2.2.1
    refine (zfold_rel (I := fun (c d : zS) => zCas c d ∧ d 13 72 = T 13 72) ⟨hC, rfl⟩ (fun j c d hj hI => ?_)).1
    obtain ⟨hI, e72⟩ := hI
    rw [Nat.zero_add]
    have hI' := hI
    unfold zCas at hI
    obtain ⟨q0, q1, q2, q3, q4, q5, q6, q7, q8, q9, q10, q11, q12, q13⟩ := hI
    have hp := q10 j (by omega)
    have hpath := (zpath1 a (d 134 j) ha hp).trans ⟨fun w => w.1, fun w => ⟨w, Or.inl rfl⟩⟩
    have hz := q13 j (by omega)
    unfold k35_2 k238_74
    rw [q2]
    have stay : ¬ d 134 j / 36 = a → zCas c (z_up d 138 j (zb ((¬ ((d 138 j) = 0)) ∨ (((d 134 j) / 36) = a)))) ∧ (z_up d 138 j (zb ((¬ ((d 138 j) = 0)) ∨ (((d 134 j) / 36) = a)))) 13 72 = T 13 72 := by
      intro hn
      have e : d 138 j = zb ((¬ ((d 138 j) = 0)) ∨ (((d 134 j) / 36) = a)) := by
        rcases hz with e | e
        · rw [e]; exact (if_neg (fun w => w.elim (fun w => w rfl) hn)).symm
        · rw [e]; exact (if_pos (Or.inl (by decide))).symm
      rw [zup_id d 138 j _ e]
      exact ⟨hI', e72⟩
    by_cases c1 : d 134 j < a * 36
    · rw [if_pos c1]; exact stay (fun w => (hpath.mpr w).1 c1)
    · rw [if_neg c1]
      by_cases c2 : a * 36 + 36 ≤ d 134 j
      · rw [if_pos c2]; exact stay (fun w => (hpath.mpr w).2 c2)
      · rw [if_neg c2, show zb ((¬ ((d 138 j) = 0)) ∨ (((d 134 j) / 36) = a)) = 1 from if_pos (Or.inr (hpath.mp ⟨c1, c2⟩))]
        refine ⟨?_, (zupci rfl).trans e72⟩
        unfold zCas
        simp only [zup2, zup1, q0, q1, q2, q3, q4, q5, q6, Nat.reduceEqDiff, reduceIte, true_and, and_true, ite_true, ite_false]
        refine ⟨q7, ?_, q9, q10, q11, q12, ?_⟩
        · intro i hi
          rw [e72] at hi
          rw [if_neg (by omega)]; exact q8 i (by rw [e72]; exact hi)
        · intro i hi
          split
          · exact Or.inr rfl
          · exact q13 i hi
  exact zQ_R ⟨(zSeal_kc rfl pS (zSeal_km rfl pT (zQ_Seal hQ))), (zKey_kc rfl pS (zKey_km rfl pT (zQ_Key hQ))), (zEng_kc rfl pS (zEng_km rfl pT (zQ_Eng hQ))), (zRul_kc rfl pS (zRul_km rfl pT (zQ_Rul hQ))), (zPpl_kc rfl pS (zPpl_km rfl pT (zQ_Ppl hQ))), (zTok_kc rfl pS (zTok_km rfl pT (zQ_Tok hQ))), (zLea_kc rfl pS (zLea_km rfl pT (zQ_Lea hQ))), (zLT_kc rfl pS (zLT_km rfl pT (zQ_LT hQ))), (zSto_kc rfl pS (zSto_km rfl pT (zQ_Sto hQ))), (zFar_kc rfl pS (zFar_km rfl pT (zQ_Far hQ))), (zLog_kc rfl pS (zLog_km rfl pT (zQ_Log hQ))), (zWra_kc rfl pS (zWra_km rfl pT (zQ_Wra hQ))), kC, (zCer_kc rfl pS (zCer_km rfl pT (zQ_Cer hQ))), (zSin_kc rfl pS (zSin_km rfl pT (zQ_Sin hQ)))⟩ (zUse_kc rfl pS (zUse_km rfl pT (zR_Use h)))
theorem zun {m : Nat} {S T : zS} (h : zR m S T) (hm : m ≤ 512) (a : Int32) (ha : zx 6 a) : zR m (G209 a S) (G238 a T) ∧ (G238 a T) 13 0 = T 13 0 := by
  have h1 := zun1 h hm a ha
  unfold G209 G238
  have t0 : (z_up (K238_27_S a 0 0 (K238_4_S a (36 * a).toNatClampNeg T)) 13 36 (K238_27_c2 a 0 0 (K238_4_S a (36 * a).toNatClampNeg T))) 13 0 = T 13 0 := (zupf rfl).trans ((congrFun ((p_K238_27_S a 0 0 _).1 13 rfl) 0).trans (congrFun ((p_K238_4_S a _ T).1 13 rfl) 0))
  generalize G18 (a * 36) ((a * 36) + 36) (K111_7_2_S (a * 36) ((a * 36) + 36) (a * 36).toNatClampNeg S) = A at *
  generalize z_up (K238_27_S a 0 0 (K238_4_S a (36 * a).toNatClampNeg T)) 13 36 (K238_27_c2 a 0 0 (K238_4_S a (36 * a).toNatClampNeg T)) = B at *
  have hQ := zR_Q h1
  have c11 := (zQ_Key hQ).2.2.2.2.2.2.1
  have hz := zend (zQ_Lea hQ) (a * 36) ((a * 36) + 36) (A 0 11) a (-1) (none : Option zV) c11.symm (fun p hp => zpath1 a p ha hp)
  have pS := p_K53_4_S (a * 36) ((a * 36) + 36) (A 0 11) 0 0 A
  have pT := p_K271_4_S a (-1) 0 (none : Option zV) 0 B
  have h2 : zR m (K53_4_S (a * 36) ((a * 36) + 36) (A 0 11) 0 0 A) (K271_4_S a (-1) 0 (none : Option zV) 0 B) := zLstep h1 hz.1 hz.2.2 (zkp_tr zkp_S pS rfl rfl) (zkp_tr zkp_S pT rfl rfl)
  refine ⟨zun3 h2 a _ _ ha, ?_⟩
  rw [(p_K238_74_S a _ _ 0 _).2 13 0 rfl rfl, pT.2 13 0 rfl rfl]
  exact t0
theorem zEng_m {S T : zS} (h : zEng S T) (i : Nat) (v w : Int32) (hw : zx 3 w) : zEng (z_up (z_up S 16 i v) 17 i w) (z_up (z_up T 84 i v) 85 i w) := by
  unfold zEng at h ⊢
  obtain ⟨k0, k1, k2, k3, k4⟩ := h
  simp only [zup1, k0, k1, k2, k3, Nat.reduceEqDiff, reduceIte, true_and, and_true, ite_true, ite_false]
  intro j hj
  rw [upd_r]
  split
  · exact hw
  · exact k4 j hj
theorem zrq12 {n : Nat} {S T : zS} (q1 : Int32) (q2 : Int32) (q3 : Int32) (hn : n < 512) (h : zR n S T) : (((G236 q1 q2 q3 T) 13 0) = (F332_0 q1 q2 q3 S)) ∧ zR (n + 1) (G332_0 q1 q2 q3 S) (M12 q1 q2 q3 T) := by
  have hQ := zR_Q h
  have s16 : S 16 = T 84 := (zQ_Eng hQ).1
  have e5q : (5 < q1) = (6 ≤ q1) := propext (by simp only [zk_lt, zk_le, zlt_m1, zlt_0, zlt_1, zlt_2, zlt_3, zlt_4, zlt_5, zlt_6, zlt_7, zlt_8, zlt_9, zlt_10, zlt_15, zlt_16, zlt_20, zlt_24, zlt_30, zlt_36, zlt_39, zlt_40, zlt_50, zlt_72, zlt_100, zlt_199, zlt_200, zlt_215, zlt_216, zlt_255, zlt_256, zlt_1000, zlt_9999, zlt_65535, zlt_1000000000]; omega)
  have eV : (if (((¬ (q1 < 0)) ∧ (¬ (5 < q1))) ∧ (((¬ (q2 < (-1))) ∧ (¬ (2 < q2))) ∧ ((¬ (q3 < 0)) ∧ (¬ ((if (q2 = 1) then (2 : Int32) else 0) < q3))))) then ((if ((zb ((T 84 q1.toNatClampNeg) = (-1))) = (zb (q2 = (-1)))) then (2 : Int32) else 0) : Int32) else 1) = F332_0 q1 q2 q3 S := by
    unfold F332_0
    rw [s16]
    simp only [e5q]
    by_cases g : (((¬ (q1 < 0)) ∧ (¬ (6 ≤ q1))) ∧ (((¬ (q2 < (-1))) ∧ (¬ (2 < q2))) ∧ ((¬ (q3 < 0)) ∧ (¬ ((if (q2 = 1) then (2 : Int32) else 0) < q3)))))
    · rw [if_pos g, if_pos g]
      unfold zb
      by_cases c1 : q2 = -1 <;> by_cases c2 : T 84 q1.toNatClampNeg = -1 <;> simp [c1, c2]
    · rw [if_neg g, if_neg g]
  show (((G236 q1 q2 q3 T) 13 0) = (F332_0 q1 q2 q3 S)) ∧ zR (n + 1) (G332_0 q1 q2 q3 S) (G236 q1 q2 q3 T)
  by_cases hA : (((¬ (q1 < 0)) ∧ (¬ (6 ≤ q1))) ∧ (((¬ (q2 < (-1))) ∧ (¬ (2 < q2))) ∧ ((¬ (q3 < 0)) ∧ (¬ ((if (q2 = 1) then (2 : Int32) else 0) < q3)))))
  rotate_left
  · have eF : F332_0 q1 q2 q3 S = 1 := by unfold F332_0; rw [if_neg hA]
    have e1 : G236 q1 q2 q3 T = z_up T 13 0 1 := by unfold G236; rw [eV, eF, if_neg (show ¬ ((1 : Int32) = 0) by decide)]
    have e2 : G332_0 q1 q2 q3 S = S := by unfold G332_0; rw [if_neg hA]
    rw [e1, e2, eF]
    exact ⟨zup_s _ _ _ _, zQ_R (zQ_thr (zQ_up hQ) 1) (zU_thr (zR_Use h) 1)⟩
  by_cases hB : ((zb (q2 = (-1))) = (zb (¬ ((S 16 q1.toNatClampNeg) = (-1)))))
  rotate_left
  · have eF : F332_0 q1 q2 q3 S = 2 := by unfold F332_0; rw [if_pos hA, if_neg hB]
    have e1 : G236 q1 q2 q3 T = z_up T 13 0 2 := by unfold G236; rw [eV, eF, if_neg (show ¬ ((2 : Int32) = 0) by decide)]
    have e2 : G332_0 q1 q2 q3 S = S := by unfold G332_0; rw [if_pos hA, if_neg hB]
    rw [e1, e2, eF]
    exact ⟨zup_s _ _ _ _, zQ_R (zQ_thr (zQ_up hQ) 2) (zU_thr (zR_Use h) 2)⟩
  have eF : F332_0 q1 q2 q3 S = 0 := by unfold F332_0; rw [if_pos hA, if_pos hB]
  have e1 : G236 q1 q2 q3 T = (if (q2 = (-1)) then (G238 q1 (z_up (z_up (z_up T 13 0 0) 84 q1.toNatClampNeg q2) 85 q1.toNatClampNeg q3)) else (z_up (z_up (z_up T 13 0 0) 84 q1.toNatClampNeg q2) 85 q1.toNatClampNeg q3)) := by unfold G236; rw [eV, eF, if_pos rfl]
  have e2 : G332_0 q1 q2 q3 S = (if (q2 = (-1)) then (G209 q1 (z_up (z_up S 16 q1.toNatClampNeg q2) 17 q1.toNatClampNeg q3)) else (z_up (z_up S 16 q1.toNatClampNeg q2) 17 q1.toNatClampNeg q3)) := by unfold G332_0; rw [if_pos hA, if_pos hB]
  have ha : zx 6 q1 := by rw [zx_iff]; have := hA.1; simp only [zk_lt, zk_le, zlt_m1, zlt_0, zlt_1, zlt_2, zlt_3, zlt_4, zlt_5, zlt_6, zlt_7, zlt_8, zlt_9, zlt_10, zlt_15, zlt_16, zlt_20, zlt_24, zlt_30, zlt_36, zlt_39, zlt_40, zlt_50, zlt_72, zlt_100, zlt_199, zlt_200, zlt_215, zlt_216, zlt_255, zlt_256, zlt_1000, zlt_9999, zlt_65535, zlt_1000000000] at this; omega
  have hw : zx 3 q3 := by
    rw [zx_iff]
    have h3 := hA.2.2
    rw [zk_lt, zk_lt, zti_ite, zlt_0, zlt_2] at h3
    by_cases e : q2 = 1
    · rw [if_pos e] at h3; omega
    · rw [if_neg e] at h3; omega
  have hR0 : zR (n + 1) S (z_up T 13 0 0) := zQ_R (zQ_thr (zQ_up hQ) 0) (zU_thr (zR_Use h) 0)
  have hQ0 := zR_Q hR0
  have pS : zkp [16, 17] [] S (z_up (z_up S 16 q1.toNatClampNeg q2) 17 q1.toNatClampNeg q3) := zkp_up (zkp_up zkp_S rfl rfl) rfl rfl
  have pT : zkp [84, 85] [] (z_up T 13 0 0) (z_up (z_up (z_up T 13 0 0) 84 q1.toNatClampNeg q2) 85 q1.toNatClampNeg q3) := zkp_up (zkp_up zkp_S rfl rfl) rfl rfl
  have kE := zEng_m (zQ_Eng hQ0) q1.toNatClampNeg q2 q3 hw
  have hR1 : zR (n + 1) (z_up (z_up S 16 q1.toNatClampNeg q2) 17 q1.toNatClampNeg q3) (z_up (z_up (z_up T 13 0 0) 84 q1.toNatClampNeg q2) 85 q1.toNatClampNeg q3) := zQ_R ⟨(zSeal_kc rfl pS (zSeal_km rfl pT (zQ_Seal hQ0))), (zKey_kc rfl pS (zKey_km rfl pT (zQ_Key hQ0))), kE, (zRul_kc rfl pS (zRul_km rfl pT (zQ_Rul hQ0))), (zPpl_kc rfl pS (zPpl_km rfl pT (zQ_Ppl hQ0))), (zTok_kc rfl pS (zTok_km rfl pT (zQ_Tok hQ0))), (zLea_kc rfl pS (zLea_km rfl pT (zQ_Lea hQ0))), (zLT_kc rfl pS (zLT_km rfl pT (zQ_LT hQ0))), (zSto_kc rfl pS (zSto_km rfl pT (zQ_Sto hQ0))), (zFar_kc rfl pS (zFar_km rfl pT (zQ_Far hQ0))), (zLog_kc rfl pS (zLog_km rfl pT (zQ_Log hQ0))), (zWra_kc rfl pS (zWra_km rfl pT (zQ_Wra hQ0))), (zCas_kc rfl pS (zCas_km rfl pT (zQ_Cas hQ0))), (zCer_kc rfl pS (zCer_km rfl pT (zQ_Cer hQ0))), (zSin_kc rfl pS (zSin_km rfl pT (zQ_Sin hQ0)))⟩ (zUse_kc rfl pS (zUse_km rfl pT (zR_Use hR0)))
  have t0 : (z_up (z_up (z_up T 13 0 0) 84 q1.toNatClampNeg q2) 85 q1.toNatClampNeg q3) 13 0 = 0 := (zupci rfl).trans ((zupci rfl).trans (zup_s _ _ _ _))
  rw [e1, e2, eF]
  by_cases c : q2 = -1
  · rw [if_pos c, if_pos c]
    obtain ⟨w1, w2⟩ := zun hR1 (by omega) q1 ha
    exact ⟨w2.trans t0, w1⟩
  · rw [if_neg c, if_neg c]
    exact ⟨t0, hR1⟩
theorem zyr12 {n : Nat} {S T : zS} (q1 : Int32) (q2 : Int32) (q3 : Int32) (hn : n < 512) (h : zR n S T) : ((G236 q1 q2 q3 T) 13 0) = (F332_0 q1 q2 q3 S) := (zrq12 q1 q2 q3 hn h).1
theorem zyt12_Eng {n : Nat} {S T : zS} (q1 : Int32) (q2 : Int32) (q3 : Int32) (hn : n < 512) (h : zR n S T) : zEng (G332_0 q1 q2 q3 S) (M12 q1 q2 q3 T) := zR_Eng (zrq12 q1 q2 q3 hn h).2
theorem zyt12_Lea {n : Nat} {S T : zS} (q1 : Int32) (q2 : Int32) (q3 : Int32) (hn : n < 512) (h : zR n S T) : zLea (G332_0 q1 q2 q3 S) (M12 q1 q2 q3 T) := zR_Lea (zrq12 q1 q2 q3 hn h).2
theorem zyt12_LT {n : Nat} {S T : zS} (q1 : Int32) (q2 : Int32) (q3 : Int32) (hn : n < 512) (h : zR n S T) : zLT (G332_0 q1 q2 q3 S) (M12 q1 q2 q3 T) := zR_LT (zrq12 q1 q2 q3 hn h).2
theorem zyt12_Sto {n : Nat} {S T : zS} (q1 : Int32) (q2 : Int32) (q3 : Int32) (hn : n < 512) (h : zR n S T) : zSto (n + 1) (G332_0 q1 q2 q3 S) (M12 q1 q2 q3 T) := zR_Sto (zrq12 q1 q2 q3 hn h).2
theorem zyt12_Far {n : Nat} {S T : zS} (q1 : Int32) (q2 : Int32) (q3 : Int32) (hn : n < 512) (h : zR n S T) : zFar (n + 1) (G332_0 q1 q2 q3 S) (M12 q1 q2 q3 T) := zR_Far (zrq12 q1 q2 q3 hn h).2
theorem zyt12_Log {n : Nat} {S T : zS} (q1 : Int32) (q2 : Int32) (q3 : Int32) (hn : n < 512) (h : zR n S T) : zLog (n + 1) (G332_0 q1 q2 q3 S) (M12 q1 q2 q3 T) := zR_Log (zrq12 q1 q2 q3 hn h).2
theorem zyt12_Cas {n : Nat} {S T : zS} (q1 : Int32) (q2 : Int32) (q3 : Int32) (hn : n < 512) (h : zR n S T) : zCas (G332_0 q1 q2 q3 S) (M12 q1 q2 q3 T) := zR_Cas (zrq12 q1 q2 q3 hn h).2
