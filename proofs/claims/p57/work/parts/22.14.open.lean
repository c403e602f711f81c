/-! dealing, opening -/
theorem jk_1103 : (1103 : Int32).toInt = 1103 := rfl
theorem jk_12345 : (12345 : Int32).toInt = 12345 := rfl
theorem jk_65536 : (65536 : Int32).toInt = 65536 := rfl
theorem jdraw {x : Int32} (h : 0 ≤ x.toInt ∧ x.toInt ≤ 65535) : (0 ≤ (zrem ((1103 * x) + 12345) 65536).toInt ∧ (zrem ((1103 * x) + 12345) 65536).toInt ≤ 65535) ∧ (0 ≤ (zrem (zrem ((1103 * x) + 12345) 65536) 257).toInt ∧ (zrem (zrem ((1103 * x) + 12345) 65536) 257).toInt ≤ 256) := by
  have e1 : (1103 * x).toInt = 1103 * x.toInt := by rw [zk_tmul (by rw [jk_1103]; omega) (by rw [jk_1103]; omega), jk_1103]
  have e2 : ((1103 * x) + 12345).toInt = 1103 * x.toInt + 12345 := by rw [zk_tadd (by rw [jk_12345]; omega) (by rw [jk_12345]; omega), e1, jk_12345]
  have e3 := zrem_nn (x := (1103 * x) + 12345) (y := 65536) (by decide) (by omega)
  rw [jk_65536] at e3
  have h3 : 0 ≤ (zrem ((1103 * x) + 12345) 65536).toInt ∧ (zrem ((1103 * x) + 12345) 65536).toInt ≤ 65535 := by omega
  have e4 := zrem_nn (x := zrem ((1103 * x) + 12345) 65536) (y := 257) (by decide) h3.1
  rw [jk_257] at e4
  exact ⟨h3, by omega, by omega⟩
theorem jEv_cg {co co' : Nat → Int} {i : Nat} : ∀ {d : Nat}, (∀ j, j < d → co' j = co j) → jEv co' i d = jEv co i d
  | 0, _ => rfl
  | d + 1, h => by
    show jEv co' i d + co' d * (i : Int) ^ d = jEv co i d + co d * (i : Int) ^ d
    rw [jEv_cg (d := d) (fun j hj => h j (by omega)), h d (by omega)]
/-- a coefficient times a power -/
theorem jw93a {S : zS} {x : Int32} {d i : Nat} (hx : 0 ≤ x.toInt ∧ x.toInt ≤ 256) (hd : d < 100) (hi : i < 100) : 0 ≤ (K93_10_c4 x (Int32.ofNat d) (Int32.ofNat i) x 0 S).toInt ∧ (K93_10_c4 x (Int32.ofNat d) (Int32.ofNat i) x 0 S).toInt ≤ 256 ∧ ∃ q : Int, (K93_10_c4 x (Int32.ofNat d) (Int32.ofNat i) x 0 S).toInt = x.toInt * (i : Int) ^ d + 257 * q := by
  unfold K93_10_c4 K93_10
  rw [zk_ix d (by omega), Nat.sub_zero]
  refine zfold_inv (f := k93_10 x (Int32.ofNat d) (Int32.ofNat i) S) (i := 0) (n := d) (a := x) (I := fun m (v : Int32) => 0 ≤ v.toInt ∧ v.toInt ≤ 256 ∧ ∃ q : Int, v.toInt = x.toInt * (i : Int) ^ m + 257 * q) ⟨hx.1, hx.2, 0, by rw [Int.pow_zero]; omega⟩ (fun m v hm hI => ?_)
  obtain ⟨i1, i2, q, i3⟩ := hI
  unfold k93_10
  have ei := zk_ti i (by omega)
  have m0 : 0 ≤ v.toInt * (i : Int) := Int.mul_nonneg i1 (by omega)
  have m1 : v.toInt * (i : Int) ≤ 256 * 100 := Int.mul_le_mul i2 (by omega) (by omega) (by decide)
  have e1 : (v * Int32.ofNat i).toInt = v.toInt * (i : Int) := by rw [zk_tmul (by rw [ei]; omega) (by rw [ei]; omega), ei]
  have e3 := zrem_nn (x := v * Int32.ofNat i) (y := 257) (by decide) (by omega)
  rw [jk_257] at e3
  have e4 := Int.mul_ediv_add_emod ((v * Int32.ofNat i).toInt) 257
  rw [← e3] at e4
  refine ⟨by omega, by omega, q * (i : Int) - (v * Int32.ofNat i).toInt / 257, ?_⟩
  have e5 : v.toInt * (i : Int) = x.toInt * (i : Int) ^ (m + 1) + 257 * (q * (i : Int)) := by rw [i3, Int.add_mul, Int.mul_assoc, Int.mul_assoc, Int.pow_succ]
  generalize (v * Int32.ofNat i).toInt / 257 = Z at e4 ⊢
  rw [e1, e5] at e4
  omega
/-- the shares so far: a polynomial of a degree below d -/
def jSh (n : Nat) (r : Int) (d : Nat) (f : Nat → Int32) : Prop := ∃ co : Nat → Int, co 0 = r ∧ ∀ i, 1 ≤ i → i ≤ n → 0 ≤ (f i).toInt ∧ (f i).toInt ≤ 256 ∧ ∃ q : Int, (f i).toInt = jEv co i d + 257 * q
theorem jw93 {C : zS} {n d : Nat} {r : Int} {x : Int32} (hn : n ≤ 6) (h11 : C 1 1 = Int32.ofNat n) (hd : 1 ≤ d ∧ d < 100) (hx : 0 ≤ x.toInt ∧ x.toInt ≤ 256) (h : jSh n r d (C 14)) (u4 u5 : Option zV) : jSh n r (d + 1) (K93_2_S x (Int32.ofNat d) u4 u5 1 C 14) := by
  obtain ⟨co, h0, h1⟩ := h
  refine ⟨fun j => if j = d then x.toInt else co j, (if_neg (by omega)).trans h0, fun i hi1 hi2 => ?_⟩
  have key : ∀ i, 1 ≤ i → i ≤ n → K93_2_S x (Int32.ofNat d) u4 u5 1 C 14 i = zrem (C 14 i + K93_10_c4 x (Int32.ofNat d) (Int32.ofNat i) x 0 C) 257 := by
    unfold K93_2_S K93_2
    rw [h11, zk_ix n (by omega), Nat.add_sub_cancel]
    have k := zfold_inv (f := k93_2 x (Int32.ofNat d)) (i := 1) (n := n) (a := (u4, u5, C)) (I := fun m (b : Option zV × Option zV × zS) => ∀ i, (1 ≤ i → i ≤ m → b.2.2 14 i = zrem (C 14 i + K93_10_c4 x (Int32.ofNat d) (Int32.ofNat i) x 0 C) 257) ∧ (m < i → b.2.2 14 i = C 14 i)) (fun i => ⟨fun e1 e2 => by omega, fun _ => rfl⟩) (fun m b hm hI i => by
      unfold k93_2
      dsimp only
      rw [zup2, if_pos rfl]
      refine ⟨fun e1 e2 => ?_, fun e1 => ?_⟩
      · by_cases him : i = 1 + m
        · rw [if_pos him, (hI (1 + m)).2 (by omega), him]; rfl
        · rw [if_neg him]; exact (hI i).1 e1 (by omega)
      · rw [if_neg (by omega)]; exact (hI i).2 (by omega))
    exact fun i e1 e2 => (k i).1 e1 e2
  rw [key i hi1 hi2]
  obtain ⟨f1, f2, q1, f3⟩ := h1 i hi1 hi2
  obtain ⟨g1, g2, q2, g3⟩ := jw93a (S := C) (x := x) (d := d) (i := i) hx (by omega) (by omega)
  generalize K93_10_c4 x (Int32.ofNat d) (Int32.ofNat i) x 0 C = t at g1 g2 g3 ⊢
  have e2 : (C 14 i + t).toInt = (C 14 i).toInt + t.toInt := by rw [zk_tadd (by omega) (by omega)]
  have e3 := zrem_nn (x := C 14 i + t) (y := 257) (by decide) (by omega)
  rw [jk_257] at e3
  have e4 := Int.mul_ediv_add_emod ((C 14 i + t).toInt) 257
  rw [← e3] at e4
  refine ⟨by omega, by omega, q1 + q2 - (C 14 i + t).toInt / 257, ?_⟩
  have e5 : jEv (fun j => if j = d then x.toInt else co j) i (d + 1) = jEv co i d + x.toInt * (i : Int) ^ d := by
    show jEv (fun j => if j = d then x.toInt else co j) i d + (if d = d then x.toInt else co d) * (i : Int) ^ d = _
    rw [jEv_cg (co := co) (fun j hj => by rw [if_neg (by omega)]), if_pos rfl]
  generalize (C 14 i + t).toInt / 257 = Z at e4 ⊢
  rw [e2, f3, g3] at e4
  rw [e5]
  omega
theorem jdeal {S : zS} {a b c : Int32} (h10 : S 1 0 = -1) (ha : 0 ≤ a.toInt ∧ a.toInt ≤ 65535) (hb : 1 ≤ b.toInt ∧ b.toInt ≤ 6) (hc : 1 ≤ c.toInt ∧ c.toInt ≤ b.toInt) : zkp [1, 14] [1000, 1001, 1002] S (B131 a b c S) ∧ B131 a b c S 1 1 = b ∧ B131 a b c S 1 2 = c ∧ jPol (B131 a b c S 1 0) b c (B131 a b c S 14) ∧ (∀ i : Nat, 1 ≤ i → (i : Int) ≤ b.toInt → zn 256 (B131 a b c S 14 i)) := by
  have hp := p_B131 a b c S
  have hp : zkp [1, 14] [1000, 1001, 1002] S (B131 a b c S) := zkp_tr zkp_S hp rfl rfl
  have hnb := zk_nat (x := b) (by omega)
  have hnc := zk_nat (x := c) (by omega)
  have hob := zk_of (x := b) (by omega)
  obtain ⟨x1, x2⟩ := jdraw ha
  have key : B131 a b c S 1 1 = b ∧ B131 a b c S 1 2 = c ∧ (0 ≤ (B131 a b c S 1 0).toInt ∧ (B131 a b c S 1 0).toInt ≤ 256) ∧ jSh b.toNatClampNeg (B131 a b c S 1 0).toInt c.toNatClampNeg (B131 a b c S 14) := by
    unfold B131 G87
    rw [if_pos h10, if_pos h10]
    generalize zrem ((1103 * a) + 12345) 65536 = x at x1 x2 ⊢
    generalize zrem x 257 = r at x2 ⊢
    have k1 := p_K87_22_S a b c x 1 (z_up (z_up (z_up S 1 0 r) 1 1 b) 1 2 c)
    have s14 : ∀ i, 1 ≤ i → i ≤ b.toNatClampNeg → K87_22_S a b c x 1 (z_up (z_up (z_up S 1 0 r) 1 1 b) 1 2 c) 14 i = r := by
      unfold K87_22_S K87_22
      have e11 : z_up (z_up (z_up S 1 0 r) 1 1 b) 1 2 c 1 1 = b := by simp only [zup2, Nat.reduceEqDiff, reduceIte]
      rw [e11, Nat.add_sub_cancel]
      have k := zfold_inv (f := k87_22 a b c x) (i := 1) (n := b.toNatClampNeg) (a := z_up (z_up (z_up S 1 0 r) 1 1 b) 1 2 c) (I := fun m (C : zS) => C 1 0 = r ∧ ∀ i, 1 ≤ i → i ≤ m → C 14 i = r) ⟨by simp only [zup2, Nat.reduceEqDiff, reduceIte], fun i e1 e2 => by omega⟩ (fun m C hm hI => by
        unfold k87_22
        refine ⟨(zupci rfl).trans hI.1, fun i e1 e2 => ?_⟩
        rw [zup2, if_pos rfl]
        split
        · exact hI.1
        · exact hI.2 i e1 (by omega))
      exact k.2
    have s10 : K87_22_S a b c x 1 (z_up (z_up (z_up S 1 0 r) 1 1 b) 1 2 c) 1 0 = r := by rw [k1.1 1 rfl]; simp only [zup2, Nat.reduceEqDiff, reduceIte]
    have s11 : K87_22_S a b c x 1 (z_up (z_up (z_up S 1 0 r) 1 1 b) 1 2 c) 1 1 = b := by rw [k1.1 1 rfl]; simp only [zup2, Nat.reduceEqDiff, reduceIte]
    have s12 : K87_22_S a b c x 1 (z_up (z_up (z_up S 1 0 r) 1 1 b) 1 2 c) 1 2 = c := by rw [k1.1 1 rfl]; simp only [zup2, Nat.reduceEqDiff, reduceIte]
    generalize K87_22_S a b c x 1 (z_up (z_up (z_up S 1 0 r) 1 1 b) 1 2 c) = A at s14 s10 s11 s12 ⊢
    have k2 := p_K87_36_S a b c x 1 A
    have kA : K87_36_S a b c x 1 A 1 = A 1 := k2.1 1 rfl
    rw [kA, s10, s11, s12]
    refine ⟨rfl, rfl, x2, ?_⟩
    unfold K87_36_S K87_36
    rw [s12]
    have hA0 : jSh b.toNatClampNeg r.toInt (0 + 1) (A 14) := ⟨fun _ => r.toInt, rfl, fun i e1 e2 => ⟨by rw [s14 i e1 e2]; exact x2.1, by rw [s14 i e1 e2]; exact x2.2, 0, by
        rw [s14 i e1 e2]
        show r.toInt = (0 + r.toInt * (i : Int) ^ 0) + 257 * 0
        rw [Int.pow_zero]; omega⟩⟩
    have k := zfold_inv (f := k87_36 a b c) (i := 1) (n := c.toNatClampNeg - 1) (a := (x, A)) (I := fun m (C : Int32 × zS) => (0 ≤ C.1.toInt ∧ C.1.toInt ≤ 65535) ∧ zkp [14] [] A C.2 ∧ jSh b.toNatClampNeg r.toInt (m + 1) (C.2 14)) ⟨x1, zkp_S, hA0⟩ (fun m C hm hI => by
      obtain ⟨i1, i2, i3⟩ := hI
      obtain ⟨y1, y2⟩ := jdraw i1
      unfold k87_36
      dsimp only
      refine ⟨y1, zkp_tr i2 (p_K93_2_S _ _ _ _ _ _) rfl rfl, ?_⟩
      have h11 : C.2 1 1 = Int32.ofNat b.toNatClampNeg := by rw [i2.1 1 rfl, s11, hob]
      have := jw93 (n := b.toNatClampNeg) (d := 1 + m) (by omega) h11 (by omega) y2 (by rw [show 1 + m = m + 1 by omega]; exact i3) none none
      rw [show 1 + m + 1 = m + 1 + 1 by omega] at this
      exact this)
    have := k.2.2
    rw [show c.toNatClampNeg - 1 + 1 = c.toNatClampNeg by omega] at this
    exact this
  obtain ⟨k1, k2, k3, co, k4, k5⟩ := key
  exact ⟨hp, k1, k2, jpol_of hb hc co k4.symm (by omega) k5, fun i e1 e2 => by
    obtain ⟨u1, u2, _⟩ := k5 i e1 (by omega)
    exact ⟨u1, u2⟩⟩
/-- how far the opening has come -/
def jOp (S0 : zS) (j : Nat) (S : zS) : Prop := zkp [1, 15] [1005, 1006] S0 S ∧ ((j : Int) < (S0 1 2).toInt → S 1 6 = 0 ∧ S 1 5 = Int32.ofNat j ∧ ∀ i : Nat, i < 7 → S 15 i = if (S0 1 1).toInt - (j : Int) < (i : Int) ∧ (i : Int) ≤ (S0 1 1).toInt then S0 14 i else -1) ∧ ((j : Int) = (S0 1 2).toInt → S 1 6 = 1 ∧ S 1 5 = 0 ∧ ∀ i, i < 7 → S 15 i = -1)
theorem jgive {S0 S : zS} {j : Nat} (h0 : jSea S0) (hj : (j : Int) < (S0 1 2).toInt) (h : jOp S0 j S) : jOp S0 (j + 1) (B133 ((S 1 1) - Int32.ofNat j) (S 14 ((S 1 1) - Int32.ofNat j).toNatClampNeg) S) ∧ (((S 1 1) - Int32.ofNat j).toInt = (S0 1 1).toInt - j) ∧ zn 256 (S 14 ((S 1 1) - Int32.ofNat j).toNatClampNeg) ∧ S 1 6 = 0 ∧ A133 ((S 1 1) - Int32.ofNat j) (S 14 ((S 1 1) - Int32.ofNat j).toNatClampNeg) S = (if ((j : Int) + 1 = (S0 1 2).toInt) then 0 else Int32.ofNat (j + 1)) := by
  unfold jSea at h0
  obtain ⟨s1, s2, s3, s4, s5, s6, s7⟩ := h0
  obtain ⟨k, o1, _⟩ := h
  obtain ⟨o1, o2, o3⟩ := o1 hj
  have e11 : S 1 1 = S0 1 1 := k.2 1 1 rfl rfl
  have e12 : S 1 2 = S0 1 2 := k.2 1 2 rfl rfl
  have e10 : S 1 0 = S0 1 0 := k.2 1 0 rfl rfl
  have e14 : S 14 = S0 14 := k.1 14 rfl
  have ej := zk_ti j (by omega)
  have eA : ((S 1 1) - Int32.ofNat j).toInt = (S0 1 1).toInt - j := by rw [e11, zk_tsub (by rw [ej]; omega) (by rw [ej]; omega), ej]
  have nA := zk_nat (x := (S 1 1) - Int32.ofNat j) (by omega)
  generalize (S 1 1) - Int32.ofNat j = a at eA nA ⊢
  have hv : zn 256 (S 14 a.toNatClampNeg) := by rw [e14]; exact s7 a.toNatClampNeg (by omega) (by omega)
  have hm1 : S 15 a.toNatClampNeg = -1 := by rw [o3 a.toNatClampNeg (by omega), if_neg (by omega)]
  have hadd : (S 1 5) + 1 = Int32.ofNat (j + 1) := by rw [o2, zk_add]
  have ej1 := zk_ti (j + 1) (by omega)
  have hm15 : ∀ v : zS, ∀ i, i < 7 → K95_2_S 0 v 15 i = -1 := by
    intro v i hi
    unfold K95_2_S K95_2
    exact (zfold_inv (f := k95_2) (i := 0) (n := 7 - 0) (a := v) (I := fun j (c : zS) => ∀ i, i < j → c 15 i = -1) (fun i hi => absurd hi (Nat.not_lt_zero _)) (fun j c hj hI i hi => by
      rw [Nat.zero_add]
      unfold k95_2
      rw [zup2, if_pos rfl]
      split
      · rfl
      · exact hI i (by omega))) i (by omega)
  have hD : (if ((S 15 a.toNatClampNeg) = (-1)) then (z_up S 1 5 ((S 1 5) + 1)) else S) = z_up S 1 5 (Int32.ofNat (j + 1)) := by rw [if_pos hm1, hadd]
  have hD5 : z_up S 1 5 (Int32.ofNat (j + 1)) 1 5 = Int32.ofNat (j + 1) := zup_s _ _ _ _
  have hp := p_B133 a (S 14 a.toNatClampNeg) S
  refine ⟨⟨zkp_tr k hp rfl rfl, fun hlt => ?_, fun heq => ?_⟩, eA, hv, o1, ?_⟩
  · unfold B133 G88
    rw [hD, hD5, e12, if_neg (by rw [zk_le, ej1]; omega)]
    refine ⟨?_, ?_, fun i hi => ?_⟩
    · simp only [zup2, Nat.reduceEqDiff, reduceIte]; exact o1
    · simp only [zup2, Nat.reduceEqDiff, reduceIte]
    · simp only [zup2, Nat.reduceEqDiff, reduceIte]
      by_cases hia : i = a.toNatClampNeg
      · rw [if_pos hia, if_pos (by omega), e14, hia]
      · rw [if_neg hia, o3 i hi]
        by_cases c : (S0 1 1).toInt - (j : Int) < (i : Int) ∧ (i : Int) ≤ (S0 1 1).toInt
        · rw [if_pos c, if_pos (by omega)]
        · rw [if_neg c, if_neg (by omega)]
  · unfold B133 G88
    rw [hD, hD5, e12, if_pos (by rw [zk_le, ej1]; omega), e10]
    have hpol : K96_4_c1 0 1 (z_up (z_up S 1 5 (Int32.ofNat (j + 1))) 15 a.toNatClampNeg (S 14 a.toNatClampNeg)) = S0 1 0 := by
      refine s6 _ ?_ (fun i hi => ?_)
      · simp only [zup2, Nat.reduceEqDiff, reduceIte]; exact e11
      · simp only [zup2, Nat.reduceEqDiff, reduceIte]
        by_cases hia : i = a.toNatClampNeg
        · rw [if_pos hia, if_pos (by omega), e14, hia]
        · rw [if_neg hia, o3 i hi]
          by_cases c : (S0 1 1).toInt - (j : Int) < (i : Int) ∧ (i : Int) ≤ (S0 1 1).toInt
          · rw [if_pos c, if_pos (by omega)]
          · rw [if_neg c, if_neg (by omega)]
    rw [hpol]
    refine ⟨?_, zup_s _ _ _ _, fun i hi => ?_⟩
    · rw [zupf rfl, (p_K95_2_S 0 _).1 1 rfl, zup_s]; exact (zb_1 _).mpr rfl
    · rw [zupci rfl]; exact hm15 _ i hi
  · unfold A133 F88
    rw [hD, hD5, e12]
    by_cases c : (j : Int) + 1 = (S0 1 2).toInt
    · rw [if_pos (by rw [zk_le, ej1]; omega), if_pos c]
    · rw [if_neg (by rw [zk_le, ej1]; omega), if_neg c]
