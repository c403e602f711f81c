/-! which rules count: the loop over all rules -/
def zdg (p : Int32) : Int32 := if p = 8 then 3 else if p = 6 then 2 else if p = 7 then 1 else 0
def zvg (d0 d1 d2 : Int32) : Int32 := (((((0 * 4) + d0) * 4) + (if d0 = 3 then 3 else d1)) * 4) + (if d0 = 3 then 3 else if d1 = 3 then 3 else d2)
def zcm (a0 a1 a2 b0 b1 b2 : Int32) : Int32 := if (a0 - b0) = 0 then (if a0 = 0 then 0 else (if (a1 - b1) = 0 then (if a1 = 0 then 0 else (if (a2 - b2) = 0 then 0 else (if (a2 - b2) ≤ 0 then -1 else 1))) else (if (a1 - b1) ≤ 0 then -1 else 1))) else (if (a0 - b0) ≤ 0 then -1 else 1)
theorem zcm_dec : ∀ d0, d0 < 4 → ∀ d1, d1 < 4 → ∀ d2, d2 < 4 → ∀ c0, c0 < 4 → ∀ c1, c1 < 4 → ∀ c2, c2 < 4 → zcm (3 - Int32.ofNat d0) (3 - Int32.ofNat d1) (3 - Int32.ofNat d2) (3 - Int32.ofNat c0) (3 - Int32.ofNat c1) (3 - Int32.ofNat c2) = (if zvg (Int32.ofNat d0) (Int32.ofNat d1) (Int32.ofNat d2) < zvg (Int32.ofNat c0) (Int32.ofNat c1) (Int32.ofNat c2) then (1 : Int32) else if zvg (Int32.ofNat d0) (Int32.ofNat d1) (Int32.ofNat d2) = zvg (Int32.ofNat c0) (Int32.ofNat c1) (Int32.ofNat c2) then 0 else -1) := by decide +kernel
theorem zvg_63 : ∀ d0, d0 < 4 → ∀ d1, d1 < 4 → ∀ d2, d2 < 4 → 0 ≤ (zvg (Int32.ofNat d0) (Int32.ofNat d1) (Int32.ofNat d2)).toInt ∧ (zvg (Int32.ofNat d0) (Int32.ofNat d1) (Int32.ofNat d2)).toInt ≤ 63 := by decide +kernel
theorem zdg_k (p : Int32) : ∃ k, k < 4 ∧ zdg p = Int32.ofNat k := by
  unfold zdg
  split
  · exact ⟨3, by decide, rfl⟩
  split
  · exact ⟨2, by decide, rfl⟩
  split
  · exact ⟨1, by decide, rfl⟩
  · exact ⟨0, by decide, rfl⟩
theorem zvg_n (p0 p1 p2 : Int32) : zn 63 (zvg (zdg p0) (zdg p1) (zdg p2)) := by
  obtain ⟨k0, l0, e0⟩ := zdg_k p0
  obtain ⟨k1, l1, e1⟩ := zdg_k p1
  obtain ⟨k2, l2, e2⟩ := zdg_k p2
  rw [e0, e1, e2]
  exact zvg_63 k0 l0 k1 l1 k2 l2
theorem zdg_3 (p : Int32) : (zdg p = 3) = (p = 8) := by
  unfold zdg
  by_cases h8 : p = 8
  · simp [h8]
  · by_cases h6 : p = 6
    · simp [h6]
    · by_cases h7 : p = 7
      · simp [h7]
      · simp [h8, h6, h7]
theorem zdg_8 : zdg 8 = 3 := by decide
theorem z254 {p : Int32} (h : zn 8 p) : (if ((6 : Int32) ≤ p) then ((if (p = 7) then (2 : Int32) else (zb (p = 6))) : Int32) else 3) = 3 - zdg p := by
  have key : ∀ n, n < 9 → (if ((6 : Int32) ≤ Int32.ofNat n) then ((if (Int32.ofNat n = 7) then (2 : Int32) else (zb (Int32.ofNat n = 6))) : Int32) else 3) = 3 - zdg (Int32.ofNat n) := by decide
  have k := key p.toNatClampNeg (by have := zn_cl h; omega)
  rwa [zk_of h.1] at k
def zft (p b s : Int32) : Prop := (p = 8) ∨ ((p = 6) ∨ (if (p = 7) then ((¬ (b = (-1))) ∧ ((zrem b 6) = s)) else (p = s)))
theorem z67 (p b s : Int32) (S : zS) : (F67 p b s S = 4 ↔ ¬ zft p b s) ∧ (¬ F67 p b s S = 4 → F67 p b s S = zdg p) := by
  unfold F67 zft zdg
  by_cases h8 : p = 8
  · simp [h8]
  · by_cases h6 : p = 6
    · simp [h6]
    · by_cases h7 : p = 7
      · by_cases hb : b = -1
        · simp [h7, hb]
        · by_cases hs : zrem b 6 = s
          · simp [h7, hb, hs]
          · simp [h7, hb, hs]
      · by_cases hs : p = s
        · subst hs; simp [h8, h6, h7]
        · simp [h8, h6, h7, hs]
def z66v (p0 p1 p2 b c : Int32) (S : zS) : Int32 := (if ((F67 p0 b (c / 36) S) = 4) then (64 : Int32) else (if ((F67 (if (p0 = 8) then (8 : Int32) else p1) b (zrem (c / 6) 6) S) = 4) then (64 : Int32) else (if ((F67 (if ((if (p0 = 8) then (8 : Int32) else p1) = 8) then (8 : Int32) else p2) b (zrem c 6) S) = 4) then (64 : Int32) else ((((((0 * 4) + (F67 p0 b (c / 36) S)) * 4) + (F67 (if (p0 = 8) then (8 : Int32) else p1) b (zrem (c / 6) 6) S)) * 4) + (F67 (if ((if (p0 = 8) then (8 : Int32) else p1) = 8) then (8 : Int32) else p2) b (zrem c 6) S)))))
theorem z66v_c {p0 p1 p2 b c : Int32} {S : zS} (c0 : ¬ (F67 p0 b (c / 36) S) = 4) (c1 : ¬ (F67 (if (p0 = 8) then (8 : Int32) else p1) b (zrem (c / 6) 6) S) = 4) (c2 : ¬ (F67 (if ((if (p0 = 8) then (8 : Int32) else p1) = 8) then (8 : Int32) else p2) b (zrem c 6) S) = 4) : z66v p0 p1 p2 b c S = zvg (zdg p0) (zdg p1) (zdg p2) := by
  unfold z66v
  rw [if_neg c0, if_neg c1, if_neg c2, (z67 _ _ _ _).2 c0, (z67 _ _ _ _).2 c1, (z67 _ _ _ _).2 c2]
  unfold zvg
  simp only [zdg_3]
  by_cases h0 : p0 = 8
  · simp only [h0, if_true, zdg_8]
  · by_cases h1 : p1 = 8
    · simp only [h0, h1, if_true, if_false, zdg_8]
    · simp only [h0, h1, if_false]
theorem z66v_cs {p0 p1 p2 b c : Int32} {S : zS} (h : ¬ z66v p0 p1 p2 b c S = 64) : (¬ (F67 p0 b (c / 36) S) = 4) ∧ (¬ (F67 (if (p0 = 8) then (8 : Int32) else p1) b (zrem (c / 6) 6) S) = 4) ∧ (¬ (F67 (if ((if (p0 = 8) then (8 : Int32) else p1) = 8) then (8 : Int32) else p2) b (zrem c 6) S) = 4) := by
  unfold z66v at h
  by_cases c0 : (F67 p0 b (c / 36) S) = 4
  · rw [if_pos c0] at h; exact absurd rfl h
  rw [if_neg c0] at h
  by_cases c1 : (F67 (if (p0 = 8) then (8 : Int32) else p1) b (zrem (c / 6) 6) S) = 4
  · rw [if_pos c1] at h; exact absurd rfl h
  rw [if_neg c1] at h
  by_cases c2 : (F67 (if ((if (p0 = 8) then (8 : Int32) else p1) = 8) then (8 : Int32) else p2) b (zrem c 6) S) = 4
  · rw [if_pos c2] at h; exact absurd rfl h
  exact ⟨c0, c1, c2⟩
theorem z66v_v {p0 p1 p2 b c : Int32} {S : zS} (h : ¬ z66v p0 p1 p2 b c S = 64) : z66v p0 p1 p2 b c S = zvg (zdg p0) (zdg p1) (zdg p2) := by
  obtain ⟨c0, c1, c2⟩ := z66v_cs h
  exact z66v_c c0 c1 c2
theorem z66v_64 {p0 p1 p2 b c : Int32} {S : zS} : (¬ z66v p0 p1 p2 b c S = 64) ↔ (zft p0 b (c / 36) ∧ zft (if (p0 = 8) then (8 : Int32) else p1) b (zrem (c / 6) 6) ∧ zft (if ((if (p0 = 8) then (8 : Int32) else p1) = 8) then (8 : Int32) else p2) b (zrem c 6)) := by
  constructor
  · intro h
    obtain ⟨c0, c1, c2⟩ := z66v_cs h
    exact ⟨Classical.byContradiction (fun hn => c0 ((z67 _ _ _ _).1.mpr hn)), Classical.byContradiction (fun hn => c1 ((z67 _ _ _ _).1.mpr hn)), Classical.byContradiction (fun hn => c2 ((z67 _ _ _ _).1.mpr hn))⟩
  · rintro ⟨f0, f1, f2⟩ h
    rw [z66v_c (fun e => (z67 _ _ _ _).1.mp e f0) (fun e => (z67 _ _ _ _).1.mp e f1) (fun e => (z67 _ _ _ _).1.mp e f2)] at h
    have hn := zvg_n p0 p1 p2
    rw [h] at hn
    unfold zn at hn
    exact absurd hn.2 (by decide)
theorem zix5 (j k : Nat) (hj : j < 40) (hk : k < 5) : ((5 * Int32.ofNat j) + Int32.ofNat k).toNatClampNeg = 5 * j + k := by
  rw [show (5 : Int32) = Int32.ofNat 5 from rfl, ← Int32.ofNat_mul, ← Int32.ofNat_add]
  exact zk_ix _ (by omega)
theorem zix3 (j k : Nat) (hj : j < 40) (hk : k < 3) : ((Int32.ofNat j * 3) + Int32.ofNat k).toNatClampNeg = 3 * j + k := by
  rw [show (3 : Int32) = Int32.ofNat 3 from rfl, ← Int32.ofNat_mul, ← Int32.ofNat_add, zk_ix _ (by omega)]
  omega
theorem z66 {S T : zS} (hr : zRul S T) (j : Nat) (hj : j < 40) (b c : Int32) : F66 (Int32.ofNat j) b c S = z66v (T 102 (5 * j)) (T 102 (5 * j + 1)) (T 102 (5 * j + 2)) b c S := by
  have hs := hr.2.1 j hj
  have i0 : ((Int32.ofNat j * 3) + 0).toNatClampNeg = 3 * j := zix3 j 0 hj (by decide)
  have i1 : ((Int32.ofNat j * 3) + 1).toNatClampNeg = 3 * j + 1 := zix3 j 1 hj (by decide)
  have i2 : ((Int32.ofNat j * 3) + 2).toNatClampNeg = 3 * j + 2 := zix3 j 2 hj (by decide)
  unfold F66 z66v
  rw [i0, i1, i2, hs.1, hs.2.1, hs.2.2.1]
  rfl
theorem z255 {S T : zS} (hr : zRul S T) (j : Nat) (hj : j < 40) (b c : Int32) : (¬ F255 (Int32.ofNat j) c b T = 0) ↔ ¬ F66 (Int32.ofNat j) b c S = 64 := by
  have i0 : ((5 * Int32.ofNat j) + 0).toNatClampNeg = 5 * j := zix5 j 0 hj (by decide)
  have i1 : ((5 * Int32.ofNat j) + 1).toNatClampNeg = 5 * j + 1 := zix5 j 1 hj (by decide)
  have i2 : ((5 * Int32.ofNat j) + 2).toNatClampNeg = 5 * j + 2 := zix5 j 2 hj (by decide)
  rw [z66 hr j hj]
  refine Iff.trans ?_ z66v_64.symm
  unfold F255
  rw [zb_0, Decidable.not_not, i0, i1, i2]
  generalize T 102 (5 * j) = p0
  generalize T 102 (5 * j + 1) = p1
  generalize T 102 (5 * j + 2) = p2
  have d10 : ((1 : Int32) = 0) = False := eq_false (by decide)
  have d20 : ((2 : Int32) = 0) = False := eq_false (by decide)
  have d21 : ((2 : Int32) = 1) = False := eq_false (by decide)
  simp only [d10, d20, d21, if_true, if_false]
  by_cases h0 : p0 = 8
  · simp [h0, zft]
  · by_cases h1 : p1 = 8
    · simp [h0, h1, zft]
    · simp [h0, h1, zft, and_assoc]
theorem z254f {S T : zS} (hr : zRul S T) (j : Nat) (hj : j < 40) : F254 (Int32.ofNat j) 0 T = 3 - zdg (T 102 (5 * j)) ∧ F254 (Int32.ofNat j) 1 T = 3 - zdg (T 102 (5 * j + 1)) ∧ F254 (Int32.ofNat j) 2 T = 3 - zdg (T 102 (5 * j + 2)) := by
  have hs := hr.2.1 j hj
  have i0 : ((5 * Int32.ofNat j) + 0).toNatClampNeg = 5 * j := zix5 j 0 hj (by decide)
  have i1 : ((5 * Int32.ofNat j) + 1).toNatClampNeg = 5 * j + 1 := zix5 j 1 hj (by decide)
  have i2 : ((5 * Int32.ofNat j) + 2).toNatClampNeg = 5 * j + 2 := zix5 j 2 hj (by decide)
  unfold F254
  rw [i0, i1, i2]
  exact ⟨z254 hs.2.2.2.2.2.1, z254 hs.2.2.2.2.2.2.1, z254 hs.2.2.2.2.2.2.2.1⟩
theorem z256 {S T : zS} (hr : zRul S T) (j i : Nat) (hj : j < 40) (hi : i < 40) (b c : Int32) (h1 : ¬ F66 (Int32.ofNat j) b c S = 64) (h2 : ¬ F66 (Int32.ofNat i) b c S = 64) : F256 (Int32.ofNat j) (Int32.ofNat i) T = (if F66 (Int32.ofNat j) b c S < F66 (Int32.ofNat i) b c S then (1 : Int32) else if F66 (Int32.ofNat j) b c S = F66 (Int32.ofNat i) b c S then 0 else -1) := by
  rw [z66 hr j hj] at h1 ⊢
  rw [z66 hr i hi] at h2 ⊢
  rw [z66v_v h1, z66v_v h2]
  have e : F256 (Int32.ofNat j) (Int32.ofNat i) T = zcm (F254 (Int32.ofNat j) 0 T) (F254 (Int32.ofNat j) 1 T) (F254 (Int32.ofNat j) 2 T) (F254 (Int32.ofNat i) 0 T) (F254 (Int32.ofNat i) 1 T) (F254 (Int32.ofNat i) 2 T) := rfl
  obtain ⟨a0, a1, a2⟩ := z254f hr j hj
  obtain ⟨b0, b1, b2⟩ := z254f hr i hi
  rw [e, a0, a1, a2, b0, b1, b2]
  obtain ⟨k0, l0, e0⟩ := zdg_k (T 102 (5 * j))
  obtain ⟨k1, l1, e1⟩ := zdg_k (T 102 (5 * j + 1))
  obtain ⟨k2, l2, e2⟩ := zdg_k (T 102 (5 * j + 2))
  obtain ⟨m0, n0, f0⟩ := zdg_k (T 102 (5 * i))
  obtain ⟨m1, n1, f1⟩ := zdg_k (T 102 (5 * i + 1))
  obtain ⟨m2, n2, f2⟩ := zdg_k (T 102 (5 * i + 2))
  rw [e0, e1, e2, f0, f1, f2]
  exact zcm_dec k0 l0 k1 l1 k2 l2 m0 n0 m1 n1 m2 n2
theorem z66_63 {S T : zS} (hr : zRul S T) (j : Nat) (hj : j < 40) (b c : Int32) (h1 : ¬ F66 (Int32.ofNat j) b c S = 64) : zn 63 (F66 (Int32.ofNat j) b c S) := by
  rw [z66 hr j hj] at h1 ⊢
  rw [z66v_v h1]
  exact zvg_n _ _ _
def zRI (S : zS) (b c : Int32) (a : Int32 × Int32 × Int32 × Int32 × Option zV) (d : Int32 × Int32 × Int32 × Int32 × Option zV × Option zV) : Prop :=
  a.2.1 = d.2.1 ∧ a.2.2.1 = d.2.2.1 ∧ a.2.2.2.1 = d.2.2.2.1 ∧ zo d.2.2.2.1 ∧ (d.2.1 = 0 → d.2.2.2.1 = 0 → d.2.2.1 = 0) ∧ ((d.1 = -1 ∧ a.1 = 63 ∧ d.2.1 = 0 ∧ d.2.2.1 = 0 ∧ d.2.2.2.1 = 0) ∨ ∃ i, i < 40 ∧ d.1 = Int32.ofNat i ∧ ¬ F66 (Int32.ofNat i) b c S = 64 ∧ a.1 = F66 (Int32.ofNat i) b c S)
theorem zor_zb {x : Int32} (h : zo x) (P : Prop) [Decidable P] : x ||| zb P = zb ((¬ x = 0) ∨ P) := by
  unfold zb
  rcases h with h | h <;> subst h <;> by_cases hp : P <;> simp [hp]
theorem zmax_i (x y : Int32) : zmax x y = (if y ≤ x then x else y) := by
  unfold zmax
  by_cases h : x < y
  · rw [if_pos h, if_neg (fun h2 => by rw [zk_lt] at h; rw [zk_le] at h2; omega)]
  · rw [if_neg h, if_pos (by rw [zk_lt] at h; rw [zk_le]; omega)]
theorem zRI_s {S T : zS} (hr : zRul S T) (a1 q b c P : Int32) (hb : b = T 111 q.toNatClampNeg) (j : Nat) (hj : j < 40) (x : Int32 × Int32 × Int32 × Int32 × Option zV) (d : Int32 × Int32 × Int32 × Int32 × Option zV × Option zV) (hI : zRI S b c x d) : zRI S b c (k64_16 a1 b c P S j x) (k257_14 q c P T j d) := by
  obtain ⟨h1, h2, h3, h4, h5, h6⟩ := hI
  have hs := hr.2.1 j hj
  have i3 : ((5 * Int32.ofNat j) + 3).toNatClampNeg = 5 * j + 3 := zix5 j 3 hj (by decide)
  have i4 : ((5 * Int32.ofNat j) + 4).toNatClampNeg = 5 * j + 4 := zix5 j 4 hj (by decide)
  have hx63 : x.1.toInt ≤ 63 := by
    rcases h6 with h6 | ⟨i, hi, _, h8, h9⟩
    · rw [h6.2.1]; decide
    · rw [h9]; exact (z66_63 hr i hi b c h8).2
  have n1 : ¬ (-1 : Int32) = 1 := by decide
  have n2 : (-1 : Int32) < 0 := by decide
  have n3 : ¬ (1 : Int32) < 0 := by decide
  have n4 : ¬ (0 : Int32) < 0 := by decide
  have n5 : ¬ (0 : Int32) = 1 := by decide
  unfold zRI k64_16 k257_14
  dsimp only
  rw [i3, i4, ← hs.2.2.2.1, ← hs.2.2.2.2.1, ← hb]
  by_cases hC : ((((zshr P ((Int32.ofNat j) / 5)) &&& 1) = 1) ∧ (¬ ((S 20 ((Int32.ofNat j) / 5).toNatClampNeg) ≤ (zrem (Int32.ofNat j) 5)))) ∧ ¬ F66 (Int32.ofNat j) b c S = 64
  · have hV : (if ((((zshr P ((Int32.ofNat j) / 5)) &&& 1) = 1) ∧ (¬ ((S 20 ((Int32.ofNat j) / 5).toNatClampNeg) ≤ (zrem (Int32.ofNat j) 5)))) then ((F66 (Int32.ofNat j) b c S) : Int32) else 64) = F66 (Int32.ofNat j) b c S := if_pos hC.1
    have hB : (if ((((zshr P ((Int32.ofNat j) / 5)) &&& 1) = 1) ∧ ((¬ ((T 101 ((Int32.ofNat j) / 5).toNatClampNeg) ≤ (zrem (Int32.ofNat j) 5))) ∧ (¬ ((F255 (Int32.ofNat j) c b T) = 0)))) then ((if (d.1 = (-1)) then (1 : Int32) else (F256 (Int32.ofNat j) d.1 T)) : Int32) else (-1)) = (if (d.1 = (-1)) then (1 : Int32) else (F256 (Int32.ofNat j) d.1 T)) := by
      rw [← hr.1]
      exact if_pos ⟨hC.1.1, hC.1.2, (z255 hr j hj b c).mpr hC.2⟩
    rw [hV, hB]
    have hv := z66_63 hr j hj b c hC.2
    have hz3 : ∀ y : Int32, (zmax y (S 23 j)) = (if (S 23 j) ≤ y then y else S 23 j) := fun y => zmax_i y _
    rcases h6 with ⟨g1, g2, g3, g4, g5⟩ | ⟨i, hi, g1, g2, g3⟩
    · have hle : (if (x.1 ≤ F66 (Int32.ofNat j) b c S) then (x.1 : Int32) else F66 (Int32.ofNat j) b c S) = F66 (Int32.ofNat j) b c S := by
        by_cases h : x.1 ≤ F66 (Int32.ofNat j) b c S
        · rw [if_pos h]
          rw [g2, zk_le, show (63 : Int32).toInt = 63 from rfl] at h
          rw [g2, zk_eq, show (63 : Int32).toInt = 63 from rfl]
          have := hv.2
          omega
        · rw [if_neg h]
      rw [h1, h2, h3, g3, g4, g5, hle, g1]
      simp only [n3, ite_self, if_true, if_false, hz3]
      refine ⟨by trivial, by trivial, ?_, ?_, ?_, Or.inr ⟨j, hj, rfl, hC.2, rfl⟩⟩
      · by_cases hs0 : S 22 j = 0 <;> simp [zb, hs0]
      · exact zb_01 _
      · intro e1 e2
        exfalso
        have e3 : ((0 : Int32) ||| S 22 j) = 0 := e1
        rw [Int32.or_eq_zero_iff] at e3
        rw [e3.2] at e2
        exact absurd e2 (by decide)
    · have hne : ¬ d.1 = -1 := by
        rw [g1]; intro h
        have := zk_ti i (by omega)
        rw [h] at this
        rw [zlt_m1] at this
        omega
      rw [if_neg hne, g1, z256 hr j i hj hi b c hC.2 g2, ← g3]
      by_cases hlt : F66 (Int32.ofNat j) b c S < x.1
      · have hnl : ¬ x.1 ≤ F66 (Int32.ofNat j) b c S := by rw [zk_le]; rw [zk_lt] at hlt; omega
        simp only [hlt, hnl, n3, if_true, if_false, hz3]
        refine ⟨by trivial, by trivial, ?_, ?_, ?_, Or.inr ⟨j, hj, rfl, hC.2, rfl⟩⟩
        · by_cases hs0 : S 22 j = 0 <;> simp [zb, hs0]
        · exact zb_01 _
        · intro e1 e2
          exfalso
          have e3 : ((0 : Int32) ||| S 22 j) = 0 := e1
          rw [Int32.or_eq_zero_iff] at e3
          rw [e3.2] at e2
          exact absurd e2 (by decide)
      · have hle : x.1 ≤ F66 (Int32.ofNat j) b c S := by rw [zk_le]; rw [zk_lt] at hlt; omega
        by_cases heq : F66 (Int32.ofNat j) b c S = x.1
        · have hle2 : x.1 ≤ x.1 := Int32.le_refl _
          have hlt2 : ¬ x.1 < x.1 := by rw [zk_lt]; omega
          rw [heq]
          simp only [hle2, hlt2, n4, n5, if_true, if_false, hz3, h1, h2, h3]
          refine ⟨by trivial, by trivial, ?_, ?_, ?_, Or.inr ⟨i, hi, rfl, g2, g3⟩⟩
          · rcases h4 with e | e <;> rw [e] <;> by_cases hs0 : S 22 j = 0 <;> simp [zb, hs0]
          · exact zb_01 _
          · intro e1 e2
            exfalso
            have e3 : (d.2.1 ||| S 22 j) = 0 := e1
            rw [Int32.or_eq_zero_iff] at e3
            rw [e3.2] at e2
            have e4 : zb ((¬ d.2.2.2.1 = 0) ∨ (0 : Int32) = 0) = 0 := e2
            rw [zb_0] at e4
            exact e4 (Or.inr rfl)
        · simp only [hle, hlt, heq, n1, n2, if_true, if_false]
          exact ⟨h1, h2, h3, h4, h5, Or.inr ⟨i, hi, rfl, g2, g3⟩⟩
  · have hV : (if ((((zshr P ((Int32.ofNat j) / 5)) &&& 1) = 1) ∧ (¬ ((S 20 ((Int32.ofNat j) / 5).toNatClampNeg) ≤ (zrem (Int32.ofNat j) 5)))) then ((F66 (Int32.ofNat j) b c S) : Int32) else 64) = 64 := by
      by_cases h : ((((zshr P ((Int32.ofNat j) / 5)) &&& 1) = 1) ∧ (¬ ((S 20 ((Int32.ofNat j) / 5).toNatClampNeg) ≤ (zrem (Int32.ofNat j) 5))))
      · rw [if_pos h]; exact Classical.byContradiction (fun h9 => hC ⟨h, h9⟩)
      · rw [if_neg h]
    have hB : (if ((((zshr P ((Int32.ofNat j) / 5)) &&& 1) = 1) ∧ ((¬ ((T 101 ((Int32.ofNat j) / 5).toNatClampNeg) ≤ (zrem (Int32.ofNat j) 5))) ∧ (¬ ((F255 (Int32.ofNat j) c b T) = 0)))) then ((if (d.1 = (-1)) then (1 : Int32) else (F256 (Int32.ofNat j) d.1 T)) : Int32) else (-1)) = -1 := by
      rw [← hr.1]
      exact if_neg (fun h => hC ⟨⟨h.1, h.2.1⟩, (z255 hr j hj b c).mp h.2.2⟩)
    rw [hV, hB]
    have hle : x.1 ≤ 64 := by rw [zk_le]; have : (64 : Int32).toInt = 64 := rfl; omega
    have hne : ¬ (64 : Int32) = x.1 := by intro h; rw [← h] at hx63; exact absurd hx63 (by decide)
    have n1 : ¬ (-1 : Int32) = 1 := by decide
    have n2 : (-1 : Int32) < 0 := by decide
    simp only [hle, hne, n1, n2, if_true, if_false]
    exact ⟨h1, h2, h3, h4, h5, h6⟩
theorem zrights {S T : zS} (hr : zRul S T) (hp : zPpl S T) (h32 : S 32 = T 111) (h33 : S 33 = T 112) (a c : Int32) (hb : -1 ≤ (T 111 a.toNatClampNeg).toInt ∧ (T 111 a.toNatClampNeg).toInt ≤ 7) : F257 a c T = F64 (S 33 a.toNatClampNeg) (S 32 a.toNatClampNeg) c S := by
  have hP := zpolicies hp h32 h33 a hb
  unfold F257 F64
  generalize F252 a T = P at hP ⊢
  rw [← hP]
  have hI : zRI S (S 32 a.toNatClampNeg) c (zfold (k64_16 (S 33 a.toNatClampNeg) (S 32 a.toNatClampNeg) c P S) 0 (40 - 0) (63, 0, 0, 0, (none : Option zV))) (zfold (k257_14 a c P T) 0 (40 - 0) ((-1), 0, 0, 0, (none : Option zV), (none : Option zV))) := by
    refine zfold_rel ⟨rfl, rfl, rfl, Or.inl rfl, fun _ _ => rfl, Or.inl ⟨rfl, rfl, rfl, rfl, rfl⟩⟩ (fun j x d hj h => ?_)
    rw [Nat.zero_add]
    exact zRI_s hr _ a _ c P (by rw [h32]) j hj x d h
  unfold K257_14_c7 K257_14_c5 K257_14_c6 K64_16_c8 K64_16_c6 K64_16_c7 K257_14 K64_16
  generalize zfold (k64_16 (S 33 a.toNatClampNeg) (S 32 a.toNatClampNeg) c P S) 0 (40 - 0) (63, 0, 0, 0, (none : Option zV)) = w at hI ⊢
  generalize zfold (k257_14 a c P T) 0 (40 - 0) ((-1), 0, 0, 0, (none : Option zV), (none : Option zV)) = v at hI ⊢
  obtain ⟨h1, h2, h3, h4, h5, h6⟩ := hI
  rw [h1, h2, h3]
  by_cases hd : v.2.2.2.1 = 0
  · rw [if_pos hd, if_pos hd]
    by_cases hz : v.2.1 = 0
    · rw [if_pos hz, hz, h5 hz hd]; rfl
    · rw [if_neg hz]
  · rw [if_neg hd, if_neg hd]
