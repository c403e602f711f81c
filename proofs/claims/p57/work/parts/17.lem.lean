/-! remainders, slots, inverses, small sets -/
theorem zrem_ti {x y : Int32} (hy : 0 < y.toInt) : (zrem x y).toInt = x.toInt.tmod y.toInt := by
  have hne : y ≠ -1 := by intro h; rw [h] at hy; exact absurd hy (by decide)
  have e1 : (x / y).toInt = x.toInt.tdiv y.toInt := Int32.toInt_div_of_ne_right x y hne
  have e2 := Int.mul_tdiv_add_tmod x.toInt y.toInt
  have h1 := Int32.le_toInt x
  have h2 := Int32.toInt_lt x
  have key : (0 ≤ x.toInt ∧ 0 ≤ x.toInt.tmod y.toInt ∧ x.toInt.tmod y.toInt ≤ x.toInt) ∨ (x.toInt < 0 ∧ x.toInt ≤ x.toInt.tmod y.toInt ∧ x.toInt.tmod y.toInt ≤ 0) := by
    by_cases hx : 0 ≤ x.toInt
    · left
      refine ⟨hx, Int.tmod_nonneg _ hx, ?_⟩
      rw [Int.tmod_eq_emod_of_nonneg hx]
      by_cases hlt : x.toInt < y.toInt
      · rw [Int.emod_eq_of_lt hx hlt]; exact Int.le_refl _
      · exact Int.le_trans (Int.le_of_lt (Int.emod_lt_of_pos _ hy)) (by omega)
    · right
      have hx' : 0 ≤ -x.toInt := by omega
      have e3 : x.toInt.tmod y.toInt = -((-x.toInt).tmod y.toInt) := by rw [Int.neg_tmod, Int.neg_neg]
      have h3 := Int.tmod_nonneg y.toInt hx'
      have h4 : (-x.toInt).tmod y.toInt ≤ -x.toInt := by
        rw [Int.tmod_eq_emod_of_nonneg hx']
        by_cases hlt : -x.toInt < y.toInt
        · rw [Int.emod_eq_of_lt hx' hlt]; exact Int.le_refl _
        · exact Int.le_trans (Int.le_of_lt (Int.emod_lt_of_pos _ hy)) (by omega)
      omega
  have e4 : (x / y * y).toInt = x.toInt - x.toInt.tmod y.toInt := by
    have : (x / y).toInt * y.toInt = x.toInt - x.toInt.tmod y.toInt := by rw [e1, Int.mul_comm]; omega
    rw [zk_tmul (by rw [this]; omega) (by rw [this]; omega), this]
  unfold zrem
  rw [zk_tsub (by rw [e4]; omega) (by rw [e4]; omega), e4]
  omega
theorem zrem_nn {x y : Int32} (hy : 0 < y.toInt) (hx : 0 ≤ x.toInt) : (zrem x y).toInt = x.toInt % y.toInt := by
  rw [zrem_ti hy, Int.tmod_eq_emod_of_nonneg hx]
theorem zdiv_ti {x y : Int32} (hy : 0 < y.toInt) (hx : 0 ≤ x.toInt) : (x / y).toInt = x.toInt / y.toInt := by
  have hne : y ≠ -1 := by intro h; rw [h] at hy; exact absurd hy (by decide)
  rw [Int32.toInt_div_of_ne_right x y hne, Int.tdiv_eq_ediv_of_nonneg hx]
theorem zsgn (x : Int32) : 0 ≤ x ↔ x.toBitVec.msb = false := by
  rw [zk_le, show (0 : Int32).toInt = 0 from rfl, ← Int32.toInt_toBitVec, BitVec.msb_eq_toInt]
  simp
theorem zxor4 (x : Int32) : 0 ≤ x ^^^ 4 ↔ 0 ≤ x := by
  rw [zsgn, zsgn, Int32.toBitVec_xor, BitVec.msb_xor, show (4 : Int32).toBitVec.msb = false from rfl, Bool.xor_false]
theorem zfm_4 {x : Int32} (S : zS) (h : 0 ≤ x.toInt) : F323 x 4 S = zrem x 4 := by
  unfold F323
  rw [if_pos ((zxor4 x).mpr (by rw [zk_le]; exact h))]
theorem zfm_zn (x : Int32) (S : zS) : zn 3 (F323 x 4 S) := by
  have h4 : (4 : Int32).toInt = 4 := rfl
  have e := zrem_ti (x := x) (y := 4) (by decide)
  rw [h4] at e
  unfold F323
  by_cases h : 0 ≤ x ^^^ 4
  · rw [if_pos h]
    have hx : 0 ≤ x.toInt := by have := (zxor4 x).mp h; rwa [zk_le] at this
    rw [Int.tmod_eq_emod_of_nonneg hx] at e
    unfold zn; omega
  · rw [if_neg h]
    have hx : ¬ 0 ≤ x.toInt := fun h9 => h ((zxor4 x).mpr (by rw [zk_le]; exact h9))
    have e3 : x.toInt.tmod 4 = -((-x.toInt).tmod 4) := by rw [Int.neg_tmod, Int.neg_neg]
    rw [Int.tmod_eq_emod_of_nonneg (a := -x.toInt) (b := 4) (by omega)] at e3
    by_cases h0 : zrem x 4 = 0
    · rw [if_pos h0, h0]; unfold zn; decide
    · rw [if_neg h0]
      have h1 : (zrem x 4).toInt ≠ 0 := fun h9 => h0 (zk_eq.mpr h9)
      unfold zn
      rw [zk_tadd (by rw [h4]; omega) (by rw [h4]; omega), h4]
      omega
theorem zx_slot {p f : Int32} (hp : zx 216 p) (hf : zn 3 f) : zx 864 ((p * 4) + f) := by
  rw [zx_iff] at *
  unfold zn at hf
  have h4 : (4 : Int32).toInt = 4 := rfl
  have e1 : (p * 4).toInt = p.toInt * 4 := by rw [zk_tmul (by rw [h4]; omega) (by rw [h4]; omega), h4]
  rw [zk_tadd (by omega) (by omega), e1]
  omega
theorem zx_slot' {p f : Int32} (hp : zx 216 p) (hf : zn 3 f) : zx 864 ((4 * p) + f) := by
  rw [Int32.mul_comm]; exact zx_slot hp hf
theorem zn_rem4 {x : Int32} (h : 0 ≤ x.toInt) : zn 3 (zrem x 4) := by
  have e := zrem_nn (x := x) (y := 4) (by decide) h
  rw [show (4 : Int32).toInt = 4 from rfl] at e
  unfold zn; omega
theorem zx_ite {P : Prop} [Decidable P] {A : Int32} (hA : zx 864 A) (h : ¬ (if P then A else (-1)) = -1) : zx 864 (if P then A else (-1)) := by
  by_cases hp : P
  · rw [if_pos hp]; exact hA
  · rw [if_neg hp] at h; exact absurd rfl h
theorem zx_107 {p v : Int32} {S : zS} (hp : zx 216 p) (h : ¬ F107 p v S = -1) : zx 864 (F107 p v S) := zx_ite (zx_slot hp (zfm_zn _ S)) h
theorem zx_107_9 {p v : Int32} {S : zS} (hp : zx 216 p) (h : ¬ F107_9 p v S = -1) : zx 864 (F107_9 p v S) := zx_ite (zx_slot hp (zfm_zn _ S)) h
def zinv (a : Int32) : Prop := a = 1 ∨ a = 2 ∨ a = 3 ∨ a = 4 ∨ a = 5 ∨ a = 252 ∨ a = 253 ∨ a = 254 ∨ a = 255 ∨ a = 256
def F221 (a : Int32) : Int32 := if a = 1 then 1 else if a = 2 then 129 else if a = 3 then 86 else if a = 4 then 193 else if a = 5 then 103 else if a = 252 then 154 else if a = 253 then 64 else if a = 254 then 171 else if a = 255 then 128 else 256
theorem zor_zn {a : Int32} (ha : zn 15 a) (j : Nat) (hj : j < 4) (P : Prop) [Decidable P] : zn 15 (a ||| (if P then zshl 1 (Int32.ofNat j) else 0)) ∧ a.toInt ≤ (a ||| (if P then zshl 1 (Int32.ofNat j) else 0)).toInt := by
  have h1 := zn_cl ha
  have h2 := zk_of ha.1
  have key : ∀ n, n < 16 → ∀ j, j < 4 → (0 ≤ (Int32.ofNat n ||| zshl 1 (Int32.ofNat j)).toInt ∧ (Int32.ofNat n ||| zshl 1 (Int32.ofNat j)).toInt ≤ 15) ∧ (Int32.ofNat n).toInt ≤ (Int32.ofNat n ||| zshl 1 (Int32.ofNat j)).toInt := by decide +kernel
  split
  · have := key a.toNatClampNeg (by omega) j hj
    rw [h2] at this
    exact this
  · rw [Int32.or_zero]; exact ⟨ha, Int.le_refl _⟩
def z16 (x : Int32) : Prop := ∃ i, 1 ≤ i ∧ i ≤ 6 ∧ x = Int32.ofNat i
def zinvb (a : Int32) : Bool := a == 1 || (a == 2 || (a == 3 || (a == 4 || (a == 5 || (a == 252 || (a == 253 || (a == 254 || (a == 255 || a == 256))))))))
theorem zinvb_i {a : Int32} (h : zinvb a = true) : zinv a := by
  unfold zinvb at h
  simp only [Bool.or_eq_true, beq_iff_eq] at h
  exact h
theorem zinv_b : ∀ i, i < 7 → ∀ j, j < 7 → (Nat.beq i 0 || Nat.beq j 0 || Nat.beq i j || zinvb (zrem ((Int32.ofNat j - Int32.ofNat i) + 257) 257)) = true := by decide +kernel
theorem zinv_k (i : Nat) (hi : i < 7) (j : Nat) (hj : j < 7) (h1 : 1 ≤ i) (h2 : 1 ≤ j) (h3 : i ≠ j) : zinv (zrem ((Int32.ofNat j - Int32.ofNat i) + 257) 257) := by
  have h := zinv_b i hi j hj
  simp only [Bool.or_eq_true] at h
  rcases h with ((h | h) | h) | h
  · exact absurd (Nat.eq_of_beq_eq_true h) (by omega)
  · exact absurd (Nat.eq_of_beq_eq_true h) (by omega)
  · exact absurd (Nat.eq_of_beq_eq_true h) h3
  · exact zinvb_i h
/-- the last version, and one that is at most three before it -/
def zrw (last v : Int32) : Prop := -100 ≤ v.toInt ∧ v.toInt < 100000 ∧ last.toInt < v.toInt + 4
def zLa (f : Nat → Int32) : Prop := ∀ j, j < 216 → zn 10000 (f j)
theorem zk_4 : (4 : Int32).toInt = 4 := rfl
theorem zl_ti {l : Int32} (h : zn 10000 l) : ((l - 4) + 1).toInt = l.toInt - 3 := by
  unfold zn at h
  have e : (l - 4).toInt = l.toInt - 4 := by rw [zk_tsub (by rw [zk_4]; omega) (by rw [zk_4]; omega), zk_4]
  rw [zk_tadd (by rw [zk_1]; omega) (by rw [zk_1]; omega), e, zk_1]; omega
theorem zrw_1 {l : Int32} (h : zn 10000 l) : zrw l ((l - 4) + 1) := by
  unfold zrw; rw [zl_ti h]; unfold zn at h; omega
theorem zrw_2 {l : Int32} (h : zn 10000 l) : zrw l (zmax 1 ((l - 4) + 1)) := by
  have e := zl_ti h
  unfold zrw zmax
  unfold zn at h
  by_cases hc : (1 : Int32) < (l - 4) + 1
  · rw [if_pos hc, e]; omega
  · rw [if_neg hc]
    rw [zk_lt, e, zk_1] at hc
    rw [zk_1]; omega
def zbest (x : Int32) : Prop := x = -1 ∨ ∃ i, i < 40 ∧ x = Int32.ofNat i
theorem zrw_end {l w v : Int32} (h1 : w.toInt = v.toInt + ((4 : Nat) : Int)) (h3 : l.toInt < v.toInt + 4) : l.toInt < w.toInt := by omega
def zPa (N M : Nat) (f : Nat → Int32) : Prop := ∀ j, j < N → f j = -1 ∨ zx M (f j)
theorem zx_lt {n : Nat} {x m : Int32} (h1 : ¬ x < 0) (h2 : ¬ m ≤ x) (h : zn n m) : zx n x := by
  rw [zx_iff]
  rw [zk_lt, show (0 : Int32).toInt = 0 from rfl] at h1
  rw [zk_le] at h2
  unfold zn at h
  omega
