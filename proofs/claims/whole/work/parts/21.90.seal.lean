/-! the seal: closed forms of its loops, the shares' generation, Lagrange's sum -/
def zcl (f : Nat → Int32) : Nat → Int32 := fun i => if i < 7 then -1 else f i
theorem zcl_no {f : Nat → Int32} (h : ∀ i, 7 ≤ i → f i = 0) : zcl f = zNo := by
  funext i
  unfold zcl zNo
  by_cases hi : i < 7
  · rw [if_pos hi, if_pos hi]
  · rw [if_neg hi, if_neg hi]; exact h i (by omega)
theorem zcl_up {f : Nat → Int32} {a : Nat} {v : Int32} (ha : a < 7) : zcl (upd f a v) = zcl f := by
  funext i
  unfold zcl
  by_cases hi : i < 7
  · rw [if_pos hi, if_pos hi]
  · rw [if_neg hi, if_neg hi]; exact if_neg (by omega)
theorem zNo_lt {i : Nat} (h : i < 7) : zNo i = -1 := if_pos h
theorem zNo_ge {i : Nat} (h : 7 ≤ i) : zNo i = 0 := if_neg (by omega)
theorem zCnt_no : zCnt zNo = 0 := by decide
theorem zk_m1 : (-1 : Int32).toInt = -1 := rfl
/-- what the seal's rows hold outside, and what clearing makes of them -/
theorem zSeal_cl {n : Nat} {S T : zS} (h : zR n S T) : zcl (S 15) = zNo ∧ zcl (T 82) = zNo ∧ zcl (T 83) = zNo := by
  have hz := i_Seal_20 h
  have n7 : ∀ i, 7 ≤ i → zNo i = 0 := fun i hi => zNo_ge hi
  refine ⟨zcl_no hz, ?_, ?_⟩
  · by_cases ho : T 13 2 = 0
    · rw [← (i_Seal_9 h ho).2.1]; exact zcl_no hz
    · rw [(i_Seal_10 h ho).2]; exact zcl_no n7
  · by_cases ho : T 13 2 = 0
    · rw [(i_Seal_9 h ho).2.2]; exact zcl_no n7
    · rw [← (i_Seal_10 h ho).1]; exact zcl_no hz
theorem K95_1 (A : zS) (c : Nat) : K95_2_S 0 A c = if c = 15 then zcl (A 15) else A c := by
  have h : ∀ n, (zfold k95_2 0 n A) c = if c = 15 then (fun i => if i < n then -1 else A 15 i) else A c := by
    intro n
    induction n with
    | zero => show A c = _; split
              · rename_i h; subst h; funext i; rw [if_neg (Nat.not_lt_zero i)]
              · rfl
    | succ n ih =>
      show z_up (zfold k95_2 0 n A) 15 (0 + n) (-1) c = _
      rw [zup1f]
      split
      · rename_i h; subst h
        rw [if_pos rfl] at ih
        funext i
        rw [ih]
        dsimp only
        by_cases h1 : i = 0 + n
        · rw [if_pos h1, if_pos (by omega)]
        · rw [if_neg h1]
          by_cases h2 : i < n
          · rw [if_pos h2, if_pos (by omega)]
          · rw [if_neg h2, if_neg (by omega)]
      · rename_i h; rw [if_neg h] at ih; exact ih
  exact h 7
theorem K214_1 (A : zS) (c : Nat) : K214_2_S 0 A c = if c = 82 then zcl (A 82) else if c = 83 then zcl (A 83) else A c := by
  have h : ∀ n, (zfold k214_2 0 n A) c = if c = 82 then (fun i => if i < n then -1 else A 82 i) else if c = 83 then (fun i => if i < n then -1 else A 83 i) else A c := by
    intro n
    induction n with
    | zero => show A c = _; split
              · rename_i h; subst h; funext i; rw [if_neg (Nat.not_lt_zero i)]
              · split
                · rename_i h; subst h; funext i; rw [if_neg (Nat.not_lt_zero i)]
                · rfl
    | succ n ih =>
      show z_up (z_up (zfold k214_2 0 n A) 82 (0 + n) (-1)) 83 (0 + n) (-1) c = _
      rw [zup1f, zup1f]
      by_cases h82 : c = 82
      · subst h82
        simp only [Nat.reduceEqDiff, reduceIte] at ih ⊢
        funext i
        rw [ih]
        try dsimp only
        by_cases h1 : i = 0 + n
        · rw [if_pos h1, if_pos (by omega)]
        · rw [if_neg h1]
          by_cases h2 : i < n
          · rw [if_pos h2, if_pos (by omega)]
          · rw [if_neg h2, if_neg (by omega)]
      · by_cases h83 : c = 83
        · subst h83
          simp only [Nat.reduceEqDiff, reduceIte] at ih ⊢
          funext i
          rw [ih]
          try dsimp only
          by_cases h1 : i = 0 + n
          · rw [if_pos h1, if_pos (by omega)]
          · rw [if_neg h1]
            by_cases h2 : i < n
            · rw [if_pos h2, if_pos (by omega)]
            · rw [if_neg h2, if_neg (by omega)]
        · rw [if_neg h82, if_neg h83] at ih
          rw [if_neg h83, if_neg h82, if_neg h82, if_neg h83]; exact ih
  exact h 7
theorem K95_r (A : zS) (c i : Nat) : K95_2_S 0 A c i = if c = 15 then zcl (A 15) i else A c i := by
  rw [K95_1]; split <;> rfl
theorem K214_r (A : zS) (c i : Nat) : K214_2_S 0 A c i = if c = 82 then zcl (A 82) i else if c = 83 then zcl (A 83) i else A c i := by
  rw [K214_1]; split
  · rfl
  · split <;> rfl
/-- the shares' generation -/
theorem zShr {a b c x : Int32} {A B : zS} (h14 : A 14 = B 81) (h10 : A 1 0 = B 13 3) (h11 : A 1 1 = b) (h12 : A 1 2 = c) :
    K87_36_S a b c x 1 (K87_22_S a b c x 1 A) 14 = K216_35_S a b c x none none none 1 (K216_22_S a b c x 1 B) 81 := by
  have e1 : ∀ n, (fun X Y : zS => X 14 = Y 81 ∧ X 1 0 = Y 13 3 ∧ X 1 1 = b ∧ X 1 2 = c) (zfold (k87_22 a b c x) 1 n A) (zfold (k216_22 a b c x) 1 n B) := by
    intro n
    refine zfold_rel (I := fun X Y : zS => X 14 = Y 81 ∧ X 1 0 = Y 13 3 ∧ X 1 1 = b ∧ X 1 2 = c) ⟨h14, h10, h11, h12⟩ ?_
    intro j X Y _ h
    refine ⟨?_, h.2.1, h.2.2.1, h.2.2.2⟩
    show z_up X 14 (1 + j) (X 1 0) 14 = z_up Y 81 (1 + j) (Y 13 3) 81
    rw [zup1f, zup1f, if_pos rfl, if_pos rfl, h.1, h.2.1]
  have e2 : ∀ (j n : Nat) (y : Int32) (u v u' v' : Option zV) (X Y : zS), X 14 = Y 81 → X 1 1 = b → (fun (p q : Option zV × Option zV × zS) => p.2.2 14 = q.2.2 81) (zfold (k93_2 (zrem y 257) (Int32.ofNat j)) 1 n (u, v, X)) (zfold (k216_43 a b c y (Int32.ofNat j)) 1 n (u', v', Y)) := by
    intro j n y u v u' v' X Y h _
    refine zfold_rel (I := fun (p q : Option zV × Option zV × zS) => p.2.2 14 = q.2.2 81) h ?_
    intro i p q _ hpq
    show z_up p.2.2 14 (1 + i) (zrem ((p.2.2 14 (1 + i)) + (K93_10_c4 (zrem y 257) (Int32.ofNat j) (Int32.ofNat (1 + i)) (zrem y 257) 0 p.2.2)) 257) 14 = z_up q.2.2 81 (1 + i) (zrem ((q.2.2 81 (1 + i)) + (K216_52_c7 a b c y (Int32.ofNat j) (Int32.ofNat (1 + i)) (zrem y 257) 0 q.2.2)) 257) 81
    rw [zup1f, zup1f, if_pos rfl, if_pos rfl, hpq]
    rfl
  have e3 : ∀ n (X Y : zS), X 14 = Y 81 → X 1 1 = b → (fun (p : Int32 × zS) (q : Int32 × Option zV × Option zV × Option zV × zS) => p.1 = q.1 ∧ p.2 14 = q.2.2.2.2 81 ∧ p.2 1 1 = b) (zfold (k87_36 a b c) 1 n (x, X)) (zfold (k216_35 a b c) 1 n (x, none, none, none, Y)) := by
    intro n X Y h h11
    refine zfold_rel (I := fun (p : Int32 × zS) (q : Int32 × Option zV × Option zV × Option zV × zS) => p.1 = q.1 ∧ p.2 14 = q.2.2.2.2 81 ∧ p.2 1 1 = b) ⟨rfl, h, h11⟩ ?_
    intro i p q _ hpq
    refine ⟨?_, ?_, ?_⟩
    · show zrem ((1103 * p.1) + 12345) 65536 = zrem ((1103 * q.1) + 12345) 65536
      rw [hpq.1]
    · show (zfold (k93_2 (zrem (zrem ((1103 * p.1) + 12345) 65536) 257) (Int32.ofNat (1 + i))) 1 ((p.2 1 1).toNatClampNeg + 1 - 1) (none, none, p.2)).2.2 14 = (zfold (k216_43 a b c (zrem ((1103 * q.1) + 12345) 65536) (Int32.ofNat (1 + i))) 1 (b.toNatClampNeg + 1 - 1) (q.2.2.1, q.2.2.2.1, q.2.2.2.2)).2.2 81
      rw [hpq.2.2, hpq.1]
      exact e2 (1 + i) _ _ none none q.2.2.1 q.2.2.2.1 p.2 q.2.2.2.2 hpq.2.1 hpq.2.2
    · exact ((p_K93_2_S _ _ _ _ _ _).2 1 1 rfl rfl).trans hpq.2.2
  show (zfold (k87_36 a b c) 1 (((zfold (k87_22 a b c x) 1 ((A 1 1).toNatClampNeg + 1 - 1) A) 1 2).toNatClampNeg - 1) (x, zfold (k87_22 a b c x) 1 ((A 1 1).toNatClampNeg + 1 - 1) A)).2 14 = (zfold (k216_35 a b c) 1 (c.toNatClampNeg - 1) (x, none, none, none, zfold (k216_22 a b c x) 1 (b.toNatClampNeg + 1 - 1) B)).2.2.2.2 81
  have f1 := e1 (b.toNatClampNeg + 1 - 1)
  rw [h11, f1.2.2.2]
  exact (e3 _ _ _ f1.1 f1.2.2.1).2.1
/-- a loop that does nothing from some round on -/
theorem zfold_ext {α : Type} {f : Nat → α → α} {i m : Nat} {a : α} : ∀ {n : Nat}, m ≤ n → (∀ j b, m ≤ j → j < n → f (i + j) b = b) → zfold f i n a = zfold f i m a
  | 0, h, _ => by rw [Nat.le_zero.mp h]
  | n + 1, h, hs => by
    by_cases he : m = n + 1
    · rw [he]
    · show f (i + n) (zfold f i n a) = _
      rw [hs n _ (by omega) (by omega)]
      exact zfold_ext (by omega) (fun j b h1 h2 => hs j b h1 (by omega))
def zw (i j : Nat) : Int32 := F221 (zrem ((Int32.ofNat j - Int32.ofNat i) + 257) 257)
def zgI (f : Nat → Int32) (i : Nat) (v : Int32) : Int32 := zfold (fun j a => if Int32.ofNat j = Int32.ofNat i then a else if f (Int32.ofNat i).toNatClampNeg = -1 then a else if f j = -1 then a else zrem ((zrem (a * Int32.ofNat j) 257) * zw i j) 257) 1 6 v
def zgO (f : Nat → Int32) : Int32 := zfold (fun j a => a + zgI f j (if f j = -1 then 0 else f j)) 1 6 0
def zcI (f : Nat → Int32) (n i : Nat) : Int32 := zfold (fun j a => if f j = -1 then a else if Int32.ofNat j = Int32.ofNat i then a else zrem ((zrem (a * Int32.ofNat j) 257) * (K98_6_c1 (F323 ((Int32.ofNat j) - Int32.ofNat i) 257 (fun _ _ => 0)) 1 (F323 ((Int32.ofNat j) - Int32.ofNat i) 257 (fun _ _ => 0)) 0 (fun _ _ => 0))) 257) 1 n 1
def zcO (f : Nat → Int32) (n : Nat) : Int32 := zfold (fun j a => if f j = -1 then a else zrem (a + f j * zcI f n j) 257) 1 n 0
theorem zcO_of (S : zS) : K96_4_c1 0 1 S = zcO (S 15) (S 1 1).toNatClampNeg := by
  show zfold (k96_4 S) 1 ((S 1 1).toNatClampNeg + 1 - 1) 0 = _
  rw [Nat.add_sub_cancel]; rfl
theorem zgO_82 (S : zS) : K222_82_4_c1 0 none none 1 S = zgO (S 82) :=
  zfold_rel (f := k222_82_4 S) (I := fun (p : Int32 × Option zV × Option zV) (q : Int32) => p.1 = q) (n := 6) rfl (fun j p q _ h => by subst h; rfl)
theorem zgO_83 (S : zS) : K222_83_4_c1 0 none none 1 S = zgO (S 83) :=
  zfold_rel (f := k222_83_4 S) (I := fun (p : Int32 × Option zV × Option zV) (q : Int32) => p.1 = q) (n := 6) rfl (fun j p q _ h => by subst h; rfl)
def zwb (i j : Nat) : Bool := Nat.beq i 0 || Nat.beq j 0 || Nat.beq i j || ((K98_6_c1 (F323 ((Int32.ofNat j) - Int32.ofNat i) 257 (fun _ _ => 0)) 1 (F323 ((Int32.ofNat j) - Int32.ofNat i) 257 (fun _ _ => 0)) 0 (fun _ _ => 0)) == zw i j && decide (0 ≤ (zw i j).toInt) && decide ((zw i j).toInt ≤ 256))
theorem zwb_all : ∀ i, i < 7 → ∀ j, j < 7 → zwb i j = true := by decide +kernel
theorem zw_ok {i j : Nat} (hi : i < 7) (hj : j < 7) (h1 : 1 ≤ i) (h2 : 1 ≤ j) (h3 : ¬ j = i) : (K98_6_c1 (F323 ((Int32.ofNat j) - Int32.ofNat i) 257 (fun _ _ => 0)) 1 (F323 ((Int32.ofNat j) - Int32.ofNat i) 257 (fun _ _ => 0)) 0 (fun _ _ => 0)) = zw i j ∧ 0 ≤ (zw i j).toInt ∧ (zw i j).toInt ≤ 256 := by
  have h := zwb_all i hi j hj
  unfold zwb at h
  rw [Bool.or_eq_true, Bool.or_eq_true, Bool.or_eq_true, Bool.and_eq_true, Bool.and_eq_true, beq_iff_eq, decide_eq_true_eq, decide_eq_true_eq] at h
  rcases h with ((h | h) | h) | h
  · exact absurd (Nat.eq_of_beq_eq_true h) (by omega)
  · exact absurd (Nat.eq_of_beq_eq_true h) (by omega)
  · exact absurd (Nat.eq_of_beq_eq_true h) (by omega)
  · exact ⟨h.1.1, h.1.2, h.2⟩
theorem zk_257 : (257 : Int32).toInt = 257 := rfl
/-- one factor, and what it is modulo 257 -/
theorem zw_step {a x w : Int32} (ha : zn 256 a) (hx : zn 6 x) (hw : zn 256 w) : zn 256 (zrem ((zrem (a * x) 257) * w) 257) ∧ (zrem ((zrem (a * x) 257) * w) 257).toInt = (a.toInt * (x.toInt * w.toInt)) % 257 := by
  unfold zn at *
  have b1 : a.toInt * x.toInt ≤ 256 * 6 := Int.mul_le_mul ha.2 hx.2 hx.1 (by decide)
  have b0 : 0 ≤ a.toInt * x.toInt := Int.mul_nonneg ha.1 hx.1
  have e1 : (a * x).toInt = a.toInt * x.toInt := zk_tmul (by omega) (by omega)
  have e2 : (zrem (a * x) 257).toInt = (a.toInt * x.toInt) % 257 := by rw [zrem_nn (by decide) (by rw [e1]; exact b0), e1, zk_257]
  have c0 : 0 ≤ (a.toInt * x.toInt) % 257 := Int.emod_nonneg _ (by decide)
  have c1 : (a.toInt * x.toInt) % 257 < 257 := Int.emod_lt_of_pos _ (by decide)
  have b2 : (a.toInt * x.toInt) % 257 * w.toInt ≤ 256 * 256 := Int.mul_le_mul (by omega) hw.2 hw.1 (by decide)
  have b3 : 0 ≤ (a.toInt * x.toInt) % 257 * w.toInt := Int.mul_nonneg c0 hw.1
  have e3 : ((zrem (a * x) 257) * w).toInt = (a.toInt * x.toInt) % 257 * w.toInt := by rw [zk_tmul (by rw [e2]; omega) (by rw [e2]; omega), e2]
  have e4 : (zrem ((zrem (a * x) 257) * w) 257).toInt = ((a.toInt * x.toInt) % 257 * w.toInt) % 257 := by rw [zrem_nn (by decide) (by rw [e3]; exact b3), e3, zk_257]
  have e5 : ((a.toInt * x.toInt) % 257 * w.toInt) % 257 = (a.toInt * (x.toInt * w.toInt)) % 257 := by
    rw [Int.mul_emod, Int.emod_emod_of_dvd _ (Int.dvd_refl _), ← Int.mul_emod, Int.mul_assoc]
  rw [e4, e5]
  exact ⟨⟨Int.emod_nonneg _ (by decide), by have := Int.emod_lt_of_pos (a.toInt * (x.toInt * w.toInt)) (show (0 : Int) < 257 by decide); omega⟩, rfl⟩
theorem zLagI {f : Nat → Int32} {n i : Nat} {v : Int32} (hi : i < 7) (h1 : 1 ≤ i) (hf : ¬ f i = -1) (hv : zn 256 v) (hn : n ≤ 6) (hz : ∀ j, j < 7 → n < j → f j = -1) :
    zn 256 (zgI f i v) ∧ zn 256 (zcI f n i) ∧ (zgI f i v).toInt % 257 = (v.toInt * (zcI f n i).toInt) % 257 := by
  have ex : zcI f n i = zcI f 6 i := by
    unfold zcI
    refine (zfold_ext hn ?_).symm
    intro j b h2 h3
    try dsimp only
    rw [if_pos (hz _ (by omega) (by omega))]
  rw [ex]
  unfold zgI zcI
  refine zfold_rel (I := fun (p q : Int32) => zn 256 p ∧ zn 256 q ∧ p.toInt % 257 = (v.toInt * q.toInt) % 257) ⟨hv, by unfold zn; decide, by rw [show (1 : Int32).toInt = 1 from rfl, Int.mul_one]⟩ ?_
  intro j p q hj h
  try dsimp only
  rw [zk_ix i (by omega), if_neg hf]
  by_cases hfj : f (1 + j) = -1
  · rw [if_pos hfj, if_pos hfj, ite_self]; exact h
  · rw [if_neg hfj, if_neg hfj]
    by_cases hji : Int32.ofNat (1 + j) = Int32.ofNat i
    · rw [if_pos hji, if_pos hji]; exact h
    · rw [if_neg hji, if_neg hji]
      have hw := zw_ok hi (show 1 + j < 7 by omega) h1 (by omega) (fun e => hji (by rw [e]))
      rw [hw.1]
      have hx : zn 6 (Int32.ofNat (1 + j)) := zn_of (by omega)
      have s1 := zw_step h.1 hx (w := zw i (1 + j)) hw.2
      have s2 := zw_step h.2.1 hx (w := zw i (1 + j)) hw.2
      refine ⟨s1.1, s2.1, ?_⟩
      rw [s1.2, s2.2, Int.emod_emod_of_dvd _ (Int.dvd_refl _), Int.mul_emod, h.2.2, ← Int.mul_emod, Int.mul_emod v.toInt, Int.emod_emod_of_dvd _ (Int.dvd_refl _), ← Int.mul_emod, Int.mul_assoc]
theorem zLag {f : Nat → Int32} {n : Nat} (hb : ∀ i, i < 7 → -1 ≤ (f i).toInt ∧ (f i).toInt ≤ 256) (hn : n ≤ 6) (hz : ∀ j, j < 7 → n < j → f j = -1) : zrem (zgO f) 257 = zcO f n := by
  have ex : zcO f n = zfold (fun j a => if f j = -1 then a else zrem (a + f j * zcI f n j) 257) 1 6 0 := by
    unfold zcO
    refine (zfold_ext hn ?_).symm
    intro j b h2 h3
    try dsimp only
    rw [if_pos (hz _ (by omega) (by omega))]
  have key : (fun (j : Nat) (p q : Int32) => zn (256 * j) p ∧ zn 256 q ∧ q.toInt = p.toInt % 257) 6 (zgO f) (zfold (fun j a => if f j = -1 then a else zrem (a + f j * zcI f n j) 257) 1 6 0) := by
    have aux : ∀ m, m ≤ 6 → (fun (j : Nat) (p q : Int32) => zn (256 * j) p ∧ zn 256 q ∧ q.toInt = p.toInt % 257) m (zfold (fun j a => a + zgI f j (if f j = -1 then 0 else f j)) 1 m 0) (zfold (fun j a => if f j = -1 then a else zrem (a + f j * zcI f n j) 257) 1 m 0) := by
      intro m
      induction m with
      | zero => intro _; exact ⟨(show zn 0 (0 : Int32) by unfold zn; decide), (show zn 256 (0 : Int32) by unfold zn; decide), rfl⟩
      | succ m ih =>
        intro hm
        have h := ih (by omega)
        try dsimp only at h
        show zn (256 * (m + 1)) ((zfold (fun j a => a + zgI f j (if f j = -1 then 0 else f j)) 1 m 0) + zgI f (1 + m) (if f (1 + m) = -1 then 0 else f (1 + m))) ∧ zn 256 (if f (1 + m) = -1 then (zfold (fun j a => if f j = -1 then a else zrem (a + f j * zcI f n j) 257) 1 m 0) else zrem ((zfold (fun j a => if f j = -1 then a else zrem (a + f j * zcI f n j) 257) 1 m 0) + f (1 + m) * zcI f n (1 + m)) 257) ∧ (if f (1 + m) = -1 then (zfold (fun j a => if f j = -1 then a else zrem (a + f j * zcI f n j) 257) 1 m 0) else zrem ((zfold (fun j a => if f j = -1 then a else zrem (a + f j * zcI f n j) 257) 1 m 0) + f (1 + m) * zcI f n (1 + m)) 257).toInt = ((zfold (fun j a => a + zgI f j (if f j = -1 then 0 else f j)) 1 m 0) + zgI f (1 + m) (if f (1 + m) = -1 then 0 else f (1 + m))).toInt % 257
        generalize zfold (fun j a => a + zgI f j (if f j = -1 then 0 else f j)) 1 m 0 = p at h ⊢
        generalize zfold (fun j a => if f j = -1 then a else zrem (a + f j * zcI f n j) 257) 1 m 0 = q at h ⊢
        by_cases hf : f (1 + m) = -1
        · rw [if_pos hf, if_pos hf]
          have e : zgI f (1 + m) 0 = 0 := by
            unfold zgI
            refine zfold_inv (I := fun _ (p : Int32) => p = 0) rfl ?_
            intro j b _ hb0
            try dsimp only
            rw [zk_ix (1 + m) (by omega), if_pos hf, ite_self]; exact hb0
          rw [e, Int32.add_zero]
          unfold zn at *
          exact ⟨by omega, h.2.1, h.2.2⟩
        · rw [if_neg hf, if_neg hf]
          have hv : zn 256 (f (1 + m)) := by
            have hb1 := hb (1 + m) (by omega)
            have : ¬ (f (1 + m)).toInt = -1 := fun e => hf (zk_eq.mpr e)
            unfold zn; omega
          have g := zLagI (v := f (1 + m)) (show 1 + m < 7 by omega) (by omega) hf hv hn hz
          generalize zgI f (1 + m) (f (1 + m)) = G at g ⊢
          generalize zcI f n (1 + m) = C at g ⊢
          generalize f (1 + m) = v at g hv ⊢
          unfold zn at *
          have m1 : v.toInt * C.toInt ≤ 256 * 256 := Int.mul_le_mul hv.2 g.2.1.2 g.2.1.1 (by decide)
          have m0 : 0 ≤ v.toInt * C.toInt := Int.mul_nonneg hv.1 g.2.1.1
          have e1 : (v * C).toInt = v.toInt * C.toInt := zk_tmul (by omega) (by omega)
          have e2 : (q + v * C).toInt = q.toInt + v.toInt * C.toInt := by rw [zk_tadd (by rw [e1]; omega) (by rw [e1]; omega), e1]
          have e3 : (p + G).toInt = p.toInt + G.toInt := zk_tadd (by omega) (by omega)
          have e4 : (zrem (q + v * C) 257).toInt = (q.toInt + v.toInt * C.toInt) % 257 := by rw [zrem_nn (by decide) (by rw [e2]; omega), e2, zk_257]
          refine ⟨by rw [e3]; omega, ?_, ?_⟩
          · rw [e4]; omega
          · rw [e4, e3, h.2.2]
            have g3 := g.2.2
            omega
    exact aux 6 (Nat.le_refl 6)
  try dsimp only at key
  rw [ex]
  apply zk_eq.mpr
  rw [zrem_nn (by decide) key.1.1, zk_257]
  exact key.2.2.symm
/-- the count of the shares that lie there -/
theorem zCnt_82 (S : zS) : K220_82_4_c1 0 1 S = zCnt (S 82) := rfl
theorem zCnt_83 (S : zS) : K220_83_4_c1 0 1 S = zCnt (S 83) := rfl
theorem zGen {a b c : Int32} {S B : zS} (h14 : S 14 = B 81) (h0 : S 1 0 = B 13 3) : G87 a b c S 14 = G216 a b c B 81 := by
  unfold G87 G216
  rw [h0]
  refine zShr ?_ ?_ ?_ ?_
  · simp only [zup1f, zite1, Nat.reduceEqDiff, reduceIte, ite_self]; exact h14
  · simp only [zup2, zite2, Nat.reduceEqDiff, reduceIte, h0]
  · simp only [zup2, zite2, Nat.reduceEqDiff, reduceIte]
  · simp only [zup2, zite2, Nat.reduceEqDiff, reduceIte]
section ZG
variable (a b c : Int32) (S : zS)
theorem G87_1_0 : G87 a b c S 1 0 = if S 1 0 = -1 then zrem (zrem ((1103 * a) + 12345) 65536) 257 else S 1 0 := by
  unfold G87
  rw [(p_K87_36_S _ _ _ _ _ _).2 1 0 rfl rfl, (p_K87_22_S _ _ _ _ _ _).2 1 0 rfl rfl]
  simp only [zup2, zite2, Nat.reduceEqDiff, reduceIte]
theorem G87_1_1 : G87 a b c S 1 1 = b := by
  unfold G87
  rw [(p_K87_36_S _ _ _ _ _ _).2 1 1 rfl rfl, (p_K87_22_S _ _ _ _ _ _).2 1 1 rfl rfl]
  simp only [zup2, zite2, Nat.reduceEqDiff, reduceIte]
theorem G87_1_2 : G87 a b c S 1 2 = c := by
  unfold G87
  rw [(p_K87_36_S _ _ _ _ _ _).2 1 2 rfl rfl, (p_K87_22_S _ _ _ _ _ _).2 1 2 rfl rfl]
  simp only [zup2, zite2, Nat.reduceEqDiff, reduceIte]
theorem G87_1_5 : G87 a b c S 1 5 = S 1 5 := (p_G87 a b c S).2 1 5 rfl rfl
theorem G87_1_6 : G87 a b c S 1 6 = S 1 6 := (p_G87 a b c S).2 1 6 rfl rfl
theorem G87_1_7 : G87 a b c S 1 7 = S 1 7 := (p_G87 a b c S).2 1 7 rfl rfl
theorem G87_1_8 : G87 a b c S 1 8 = S 1 8 := (p_G87 a b c S).2 1 8 rfl rfl
theorem G87_1_9 : G87 a b c S 1 9 = S 1 9 := (p_G87 a b c S).2 1 9 rfl rfl
theorem G87_1_10 : G87 a b c S 1 10 = S 1 10 := (p_G87 a b c S).2 1 10 rfl rfl
theorem G87_15 : G87 a b c S 15 = S 15 := (p_G87 a b c S).1 15 rfl
theorem G216_13_3 : G216 a b c S 13 3 = if S 13 3 = -1 then zrem (zrem ((1103 * a) + 12345) 65536) 257 else S 13 3 := by
  unfold G216
  rw [(p_K216_35_S _ _ _ _ _ _ _ _ _).2 13 3 rfl rfl, (p_K216_22_S _ _ _ _ _ _).2 13 3 rfl rfl]
  simp only [zup2, zite2, Nat.reduceEqDiff, reduceIte]
theorem G216_13_4 : G216 a b c S 13 4 = b := by
  unfold G216
  rw [(p_K216_35_S _ _ _ _ _ _ _ _ _).2 13 4 rfl rfl, (p_K216_22_S _ _ _ _ _ _).2 13 4 rfl rfl]
  simp only [zup2, zite2, Nat.reduceEqDiff, reduceIte]
theorem G216_13_5 : G216 a b c S 13 5 = c := by
  unfold G216
  rw [(p_K216_35_S _ _ _ _ _ _ _ _ _).2 13 5 rfl rfl, (p_K216_22_S _ _ _ _ _ _).2 13 5 rfl rfl]
  simp only [zup2, zite2, Nat.reduceEqDiff, reduceIte]
theorem G216_13_0 : G216 a b c S 13 0 = S 13 0 := (p_G216 a b c S).2 13 0 rfl rfl
theorem G216_13_2 : G216 a b c S 13 2 = S 13 2 := (p_G216 a b c S).2 13 2 rfl rfl
theorem G216_13_9 : G216 a b c S 13 9 = S 13 9 := (p_G216 a b c S).2 13 9 rfl rfl
theorem G216_13_10 : G216 a b c S 13 10 = S 13 10 := (p_G216 a b c S).2 13 10 rfl rfl
theorem G216_13_11 : G216 a b c S 13 11 = S 13 11 := (p_G216 a b c S).2 13 11 rfl rfl
theorem G216_13_12 : G216 a b c S 13 12 = S 13 12 := (p_G216 a b c S).2 13 12 rfl rfl
theorem G216_82 : G216 a b c S 82 = S 82 := (p_G216 a b c S).1 82 rfl
theorem G216_83 : G216 a b c S 83 = S 83 := (p_G216 a b c S).1 83 rfl
end ZG
theorem zCnt_upd {f : Nat → Int32} {a : Nat} {v : Int32} (h1 : 1 ≤ a) (h6 : a ≤ 6) (hv : ¬ v = -1) : zCnt (upd f a v) = if f a = -1 then zCnt f + 1 else zCnt f := by
  have h : a = 1 ∨ a = 2 ∨ a = 3 ∨ a = 4 ∨ a = 5 ∨ a = 6 := by omega
  unfold zCnt
  simp only [upd_r]
  rcases h with h | h | h | h | h | h <;> subst h <;> simp only [Nat.reduceEqDiff, reduceIte] <;> grind [zb]
/-- the sum that the class takes is the one that the reference takes -/
theorem zLagS {f : Nat → Int32} {n a : Nat} {v : Int32} (hb : ∀ i, i < 7 → -1 ≤ (f i).toInt ∧ (f i).toInt ≤ 256) (hn : n ≤ 6) (hz : ∀ j, j < 7 → n < j → f j = -1) (ha : a ≤ n) (hv : zn 256 v) : zrem (zgO (upd f a v)) 257 = zcO (upd f a v) n := by
  refine zLag ?_ hn ?_
  · intro i hi
    rw [upd_r]
    by_cases h : i = a
    · rw [if_pos h]; unfold zn at hv; omega
    · rw [if_neg h]; exact hb i hi
  · intro j hj hnj
    rw [upd_r, if_neg (by omega)]; exact hz j hj hnj
theorem zSub_facts {n : Nat} {S T : zS} {q1 q2 : Int32} (h : zR n S T) (a1 : ¬ q1 < 1) (a2 : ¬ T 13 4 < q1) (a3 : ¬ q2 < 0) (a4 : ¬ 256 < q2) :
    zcl (upd (S 15) q1.toNatClampNeg q2) = zNo ∧ zcl (upd (T 82) q1.toNatClampNeg q2) = zNo ∧ zcl (upd (T 83) q1.toNatClampNeg q2) = zNo ∧
    zCnt (upd (S 15) q1.toNatClampNeg q2) = (if S 15 q1.toNatClampNeg = -1 then zCnt (S 15) + 1 else zCnt (S 15)) ∧
    zrem (zgO (upd (S 15) q1.toNatClampNeg q2)) 257 = zcO (upd (S 15) q1.toNatClampNeg q2) (T 13 4).toNatClampNeg ∧
    1 ≤ q1.toNatClampNeg ∧ q1.toNatClampNeg < 7 ∧ (q1.toNatClampNeg : Int) ≤ (T 13 4).toInt ∧ zn 256 q2 := by
  have hcl := zSeal_cl h
  have hn := i_Seal_17 h
  have hb := i_Seal_12 h
  have hz := i_Seal_14 h
  unfold zn at hn
  rw [zk_lt] at a1 a2 a3 a4
  have b1 : (1 : Int32).toInt = 1 := rfl
  have b0 : (0 : Int32).toInt = 0 := rfl
  have b256 : (256 : Int32).toInt = 256 := rfl
  rw [b1] at a1
  rw [b0] at a3
  rw [b256] at a4
  have b2 := zk_nat (x := q1) (by omega)
  have b3 := zk_nat (x := T 13 4) (by omega)
  have l7 : q1.toNatClampNeg < 7 := by omega
  have hv : zn 256 q2 := by unfold zn; omega
  refine ⟨(zcl_up l7).trans hcl.1, (zcl_up l7).trans hcl.2.1, (zcl_up l7).trans hcl.2.2, ?_, ?_, by omega, l7, by omega, hv⟩
  · refine zCnt_upd (by omega) (by omega) ?_
    intro e; rw [e] at a3; exact a3 (by decide)
  · exact zLagS hb (by omega) (fun j hj hnj => hz j hj (by omega)) (by omega) hv
