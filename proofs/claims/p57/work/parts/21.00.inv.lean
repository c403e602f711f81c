/-! what holds of the class's cells behind n calls -/
/-- leases below m of a system that are not ended -/
def jN (sy st : Nat → Int32) (s : Nat) : Nat → Nat
  | 0 => 0
  | m + 1 => jN sy st s m + (if sy m = Int32.ofNat s ∧ ¬ st m = 2 then 1 else 0)
/-- of the log's entries from a on, m of them: those that write at a path -/
def jP (pa ke : Nat → Int32) (p a : Nat) : Nat → Nat
  | 0 => 0
  | m + 1 => jP pa ke p a m + (if pa (a + m) = Int32.ofNat p ∧ ¬ ke (a + m) = 0 then 1 else 0)
/-- the shares are such that the last ones of them, as many as are needed, tell the root key -/
def jPol (r n k : Int32) (f : Nat → Int32) : Prop := ∀ S : zS, S 1 1 = n → (∀ i : Nat, i < 7 → S 15 i = if n.toInt - k.toInt < (i : Int) ∧ (i : Int) ≤ n.toInt then f i else -1) → K96_4_c1 0 1 S = r
theorem zn_mono {n N : Nat} {x : Int32} (h : zn n x) (h2 : n ≤ N) : zn N x := by unfold zn at *; omega
def zmem : List Nat → Nat → Bool
  | [], _ => false
  | a :: l, c => Nat.beq a c || zmem l c
def zsub : List Nat → List Nat → Bool
  | [], _ => true
  | a :: l, k => zmem k a && zsub l k
theorem zsub_mem {c : Nat} {k : List Nat} : ∀ {l : List Nat}, zsub l k = true → zmem k c = false → zmem l c = false
  | [], _, _ => rfl
  | a :: l, h, hk => by
    unfold zsub at h
    rw [Bool.and_eq_true] at h
    unfold zmem
    rw [zsub_mem h.2 hk, Bool.or_false]
    cases hb : Nat.beq a c with
    | false => rfl
    | true => rw [Nat.eq_of_beq_eq_true hb, hk] at h; exact absurd h.1 (by decide)
/-- what is kept: all cells outside l; of the objects all fields outside fl (cell * 1000 + number) -/
def zkp (l fl : List Nat) (S S' : zS) : Prop := (∀ c, zmem l c = false → S' c = S c) ∧ (∀ c i, Nat.ble 14 c = false → zmem fl (c * 1000 + i) = false → S' c i = S c i)
theorem zkp_S {l fl : List Nat} {S : zS} : zkp l fl S S := ⟨fun _ _ => rfl, fun _ _ _ _ => rfl⟩
theorem zkp_up {l fl : List Nat} {S A : zS} {c i : Nat} {v : Int32} (h : zkp l fl S A) (h1 : zmem l c = true) (h2 : Nat.ble 14 c = true) : zkp l fl S (z_up A c i v) := by
  refine ⟨fun d hd => ?_, fun d j h3 hd => ?_⟩
  · rw [z_up_ne A c i v d (fun e => by rw [e, h1] at hd; exact absurd hd (by decide))]; exact h.1 d hd
  · rw [z_up_ne A c i v d (fun e => by rw [e, h2] at h3; exact absurd h3 (by decide))]; exact h.2 d j h3 hd
theorem zkp_upf {l fl : List Nat} {S A : zS} {c i : Nat} {v : Int32} (h : zkp l fl S A) (h1 : zmem l c = true) (h2 : zmem fl (c * 1000 + i) = true) : zkp l fl S (z_up A c i v) := by
  refine ⟨fun d hd => ?_, fun d j h3 hd => ?_⟩
  · rw [z_up_ne A c i v d (fun e => by rw [e, h1] at hd; exact absurd hd (by decide))]; exact h.1 d hd
  · by_cases hc : d = c
    · subst hc
      rw [z_up_at]; show (if j = i then v else A d j) = S d j; rw [if_neg (fun e => by rw [e, h2] at hd; exact absurd hd (by decide))]; exact h.2 d j h3 hd
    · rw [z_up_ne A c i v d hc]; exact h.2 d j h3 hd
theorem zkp_ite {P : Prop} [Decidable P] {l fl : List Nat} {S A B : zS} (h1 : zkp l fl S A) (h2 : zkp l fl S B) : zkp l fl S (if P then A else B) := by split <;> assumption
theorem zkp_tr {l fl l2 fl2 : List Nat} {S A B : zS} (h1 : zkp l fl S A) (h2 : zkp l2 fl2 A B) (hl : zsub l2 l = true) (hf : zsub fl2 fl = true) : zkp l fl S B :=
  ⟨fun c hc => (h2.1 c (zsub_mem hl hc)).trans (h1.1 c hc), fun c i h3 hc => (h2.2 c i h3 (zsub_mem hf hc)).trans (h1.2 c i h3 hc)⟩
theorem upd_r (f : Nat → Int32) (i : Nat) (v : Int32) (b : Nat) : upd f i v b = if b = i then v else f b := rfl
theorem zup2 (S : zS) (k i : Nat) (v : Int32) (a b : Nat) : z_up S k i v a b = if a = k then (if b = i then v else S a b) else S a b := by
  by_cases h : a = k
  · subst h; rw [z_up_at, if_pos rfl]; rfl
  · rw [z_up_ne S k i v a h, if_neg h]
theorem zup1 (S : zS) (k i : Nat) (v : Int32) (a : Nat) : z_up S k i v a = if a = k then upd (S a) i v else S a := by
  by_cases h : a = k
  · subst h; rw [if_pos rfl]; funext b; rw [z_up_at, upd_r]
  · rw [z_up_ne S k i v a h, if_neg h]
theorem zite2 {P : Prop} [Decidable P] (A B : zS) (a b : Nat) : (if P then A else B) a b = if P then A a b else B a b := by split <;> rfl
theorem zite1 {P : Prop} [Decidable P] (A B : zS) (a : Nat) : (if P then A else B) a = if P then A a else B a := by split <;> rfl
def jSea (S : zS) : Prop := zo (S 1 6) ∧ (1 ≤ (S 1 1).toInt ∧ (S 1 1).toInt ≤ 6) ∧ (1 ≤ (S 1 2).toInt ∧ (S 1 2).toInt ≤ (S 1 1).toInt) ∧ (∀ i, i < 7 → S 15 i = -1) ∧ S 1 5 = 0 ∧ jPol (S 1 0) (S 1 1) (S 1 2) (S 14) ∧ (∀ i : Nat, 1 ≤ i → (i : Int) ≤ (S 1 1).toInt → zn 256 (S 14 i))
def jSea_o (l fl : List Nat) : Bool := true && (zmem fl 1006 == false) && (zmem fl 1001 == false) && (zmem fl 1002 == false) && (zmem fl 1000 == false) && (zmem fl 1005 == false) && (zmem l 14 == false) && (zmem l 15 == false)
theorem jSea_c {S S' : zS} (c1_6 : S' 1 6 = S 1 6) (c1_1 : S' 1 1 = S 1 1) (c1_2 : S' 1 2 = S 1 2) (c1_0 : S' 1 0 = S 1 0) (c1_5 : S' 1 5 = S 1 5) (c14 : S' 14 = S 14) (c15 : S' 15 = S 15) (h : jSea S) : jSea S' := by
  unfold jSea at *
  simp only [c1_6, c1_1, c1_2, c1_0, c1_5, c14, c15] at *
  exact h
theorem jSea_k {l fl : List Nat} {S S' : zS} (hd : jSea_o l fl = true) : zkp l fl S S' → jSea S → jSea S' := fun h hr => by
  unfold jSea_o at hd
  simp only [Bool.and_eq_true, beq_iff_eq, true_and] at hd
  exact jSea_c (h.2 1 6 rfl hd.1.1.1.1.1.1) (h.2 1 1 rfl hd.1.1.1.1.1.2) (h.2 1 2 rfl hd.1.1.1.1.2) (h.2 1 0 rfl hd.1.1.1.2) (h.2 1 5 rfl hd.1.1.2) (h.1 14 hd.1.2) (h.1 15 hd.2) hr
def jKey (n : Nat) (S : zS) : Prop := zn (50 * n) (S 0 11) ∧ 1 ≤ (S 2 3).toInt ∧ (S 2 3).toInt ≤ (S 2 0).toInt ∧ (S 2 0).toInt ≤ 1 + 60 * n
def jKey_o (l fl : List Nat) : Bool := true && (zmem fl 11 == false) && (zmem fl 2000 == false) && (zmem fl 2003 == false)
theorem jKey_c {S S' : zS} {n : Nat} (c0_11 : S' 0 11 = S 0 11) (c2_0 : S' 2 0 = S 2 0) (c2_3 : S' 2 3 = S 2 3) (h : jKey n S) : jKey n S' := by
  unfold jKey at *
  simp only [c0_11, c2_0, c2_3] at *
  exact h
theorem jKey_k {n : Nat} {l fl : List Nat} {S S' : zS} (hd : jKey_o l fl = true) : zkp l fl S S' → jKey n S → jKey n S' := fun h hr => by
  unfold jKey_o at hd
  simp only [Bool.and_eq_true, beq_iff_eq, true_and] at hd
  exact jKey_c (h.2 0 11 rfl hd.1.1) (h.2 2 0 rfl hd.1.2) (h.2 2 3 rfl hd.2) hr
theorem jKey_u {n m : Nat} {S : zS} (hm : n ≤ m) (h : jKey n S) : jKey m S := by
  unfold jKey at *
  exact ⟨zn_mono h.1 (by omega), h.2.1, h.2.2.1, by have := h.2.2.2; omega⟩
def jEng (S : zS) : Prop := (∀ f, f < 6 → -1 ≤ (S 16 f).toInt ∧ (S 16 f).toInt ≤ 2) ∧ zA 6 3 (S 17) ∧ (∀ f, f < 6 → zn 100 (S 18 f))
def jEng_o (l fl : List Nat) : Bool := true && (zmem l 16 == false) && (zmem l 17 == false) && (zmem l 18 == false)
theorem jEng_c {S S' : zS} (c16 : S' 16 = S 16) (c17 : S' 17 = S 17) (c18 : S' 18 = S 18) (h : jEng S) : jEng S' := by
  unfold jEng at *
  simp only [c16, c17, c18] at *
  exact h
theorem jEng_k {l fl : List Nat} {S S' : zS} (hd : jEng_o l fl = true) : zkp l fl S S' → jEng S → jEng S' := fun h hr => by
  unfold jEng_o at hd
  simp only [Bool.and_eq_true, beq_iff_eq, true_and] at hd
  exact jEng_c (h.1 16 hd.1.1) (h.1 17 hd.1.2) (h.1 18 hd.2) hr
def jPpl (S : zS) : Prop := (∀ j, j < 18 → -1 ≤ (S 24 j).toInt ∧ (S 24 j).toInt ≤ 7) ∧ (∀ j, j < 8 → zn 255 (S 26 j)) ∧ (∀ j, j < 4 → zn 255 (S 27 j))
def jPpl_o (l fl : List Nat) : Bool := true && (zmem l 24 == false) && (zmem l 26 == false) && (zmem l 27 == false)
theorem jPpl_c {S S' : zS} (c24 : S' 24 = S 24) (c26 : S' 26 = S 26) (c27 : S' 27 = S 27) (h : jPpl S) : jPpl S' := by
  unfold jPpl at *
  simp only [c24, c26, c27] at *
  exact h
theorem jPpl_k {l fl : List Nat} {S S' : zS} (hd : jPpl_o l fl = true) : zkp l fl S S' → jPpl S → jPpl S' := fun h hr => by
  unfold jPpl_o at hd
  simp only [Bool.and_eq_true, beq_iff_eq, true_and] at hd
  exact jPpl_c (h.1 24 hd.1.1) (h.1 26 hd.1.2) (h.1 27 hd.2) hr
def jTok (S : zS) : Prop := zn 40 (S 5 0) ∧ (∀ j, -1 ≤ (S 32 j).toInt ∧ (S 32 j).toInt ≤ 7) ∧ (∀ j, zo (S 39 j)) ∧ (∀ j, zo (S 40 j)) ∧ (∀ j, (S 5 0).toNatClampNeg ≤ j → S 40 j = 0) ∧ (∀ j, -1 ≤ (S 37 j).toInt ∧ (S 37 j).toInt ≤ 20) ∧ (∀ j, j < (S 5 0).toNatClampNeg → S 31 j = 2 → 1 ≤ (S 36 j).toInt ∧ (S 36 j).toInt ≤ 100)
def jTok_o (l fl : List Nat) : Bool := true && (zmem fl 5000 == false) && (zmem l 31 == false) && (zmem l 32 == false) && (zmem l 36 == false) && (zmem l 37 == false) && (zmem l 39 == false) && (zmem l 40 == false)
theorem jTok_c {S S' : zS} (c5_0 : S' 5 0 = S 5 0) (c31 : S' 31 = S 31) (c32 : S' 32 = S 32) (c36 : S' 36 = S 36) (c37 : S' 37 = S 37) (c39 : S' 39 = S 39) (c40 : S' 40 = S 40) (h : jTok S) : jTok S' := by
  unfold jTok at *
  simp only [c5_0, c31, c32, c36, c37, c39, c40] at *
  exact h
theorem jTok_k {l fl : List Nat} {S S' : zS} (hd : jTok_o l fl = true) : zkp l fl S S' → jTok S → jTok S' := fun h hr => by
  unfold jTok_o at hd
  simp only [Bool.and_eq_true, beq_iff_eq, true_and] at hd
  exact jTok_c (h.2 5 0 rfl hd.1.1.1.1.1.1) (h.1 31 hd.1.1.1.1.1.2) (h.1 32 hd.1.1.1.1.2) (h.1 36 hd.1.1.1.2) (h.1 37 hd.1.1.2) (h.1 39 hd.1.2) (h.1 40 hd.2) hr
def jTim (S : zS) : Prop := (∀ j, j < (S 5 0).toNatClampNeg → S 40 j = 0 → (S 0 11).toInt < (S 34 j).toInt ∧ (¬ S 31 j = 2 → (S 34 j).toInt ≤ (S 35 j).toInt))
def jTim_o (l fl : List Nat) : Bool := true && (zmem fl 11 == false) && (zmem fl 5000 == false) && (zmem l 40 == false) && (zmem l 34 == false) && (zmem l 31 == false) && (zmem l 35 == false)
theorem jTim_c {S S' : zS} (c0_11 : S' 0 11 = S 0 11) (c5_0 : S' 5 0 = S 5 0) (c40 : S' 40 = S 40) (c34 : S' 34 = S 34) (c31 : S' 31 = S 31) (c35 : S' 35 = S 35) (h : jTim S) : jTim S' := by
  unfold jTim at *
  simp only [c0_11, c5_0, c40, c34, c31, c35] at *
  exact h
theorem jTim_k {l fl : List Nat} {S S' : zS} (hd : jTim_o l fl = true) : zkp l fl S S' → jTim S → jTim S' := fun h hr => by
  unfold jTim_o at hd
  simp only [Bool.and_eq_true, beq_iff_eq, true_and] at hd
  exact jTim_c (h.2 0 11 rfl hd.1.1.1.1.1) (h.2 5 0 rfl hd.1.1.1.1.2) (h.1 40 hd.1.1.1.2) (h.1 34 hd.1.1.2) (h.1 31 hd.1.2) (h.1 35 hd.2) hr
def jUse (S : zS) : Prop := (∀ j, j < (S 5 0).toNatClampNeg → S 40 j = 0 → ¬ S 37 j = 0)
def jUse_o (l fl : List Nat) : Bool := true && (zmem fl 5000 == false) && (zmem l 40 == false) && (zmem l 37 == false)
theorem jUse_c {S S' : zS} (c5_0 : S' 5 0 = S 5 0) (c40 : S' 40 = S 40) (c37 : S' 37 = S 37) (h : jUse S) : jUse S' := by
  unfold jUse at *
  simp only [c5_0, c40, c37] at *
  exact h
theorem jUse_k {l fl : List Nat} {S S' : zS} (hd : jUse_o l fl = true) : zkp l fl S S' → jUse S → jUse S' := fun h hr => by
  unfold jUse_o at hd
  simp only [Bool.and_eq_true, beq_iff_eq, true_and] at hd
  exact jUse_c (h.2 5 0 rfl hd.1.1) (h.1 40 hd.1.2) (h.1 37 hd.2) hr
def jLea (S : zS) : Prop := zn 40 (S 6 0) ∧ zA 40 40 (S 41) ∧ zA 40 3 (S 43) ∧ (∀ j, zn 3 (S 46 j)) ∧ (∀ j, j < 3 → zn 2 (S 48 j))
def jLea_o (l fl : List Nat) : Bool := true && (zmem fl 6000 == false) && (zmem l 41 == false) && (zmem l 43 == false) && (zmem l 46 == false) && (zmem l 48 == false)
theorem jLea_c {S S' : zS} (c6_0 : S' 6 0 = S 6 0) (c41 : S' 41 = S 41) (c43 : S' 43 = S 43) (c46 : S' 46 = S 46) (c48 : S' 48 = S 48) (h : jLea S) : jLea S' := by
  unfold jLea at *
  simp only [c6_0, c41, c43, c46, c48] at *
  exact h
theorem jLea_k {l fl : List Nat} {S S' : zS} (hd : jLea_o l fl = true) : zkp l fl S S' → jLea S → jLea S' := fun h hr => by
  unfold jLea_o at hd
  simp only [Bool.and_eq_true, beq_iff_eq, true_and] at hd
  exact jLea_c (h.2 6 0 rfl hd.1.1.1.1) (h.1 41 hd.1.1.1.2) (h.1 43 hd.1.1.2) (h.1 46 hd.1.2) (h.1 48 hd.2) hr
def jEnd (S : zS) : Prop := (∀ j, j < (S 6 0).toNatClampNeg → (S 46 j = 0 → (S 0 11).toInt < (S 44 j).toInt ∧ (S 44 j).toInt ≤ (S 45 j).toInt) ∧ (¬ S 46 j = 0 → (S 44 j).toInt ≤ (S 0 11).toInt))
def jEnd_o (l fl : List Nat) : Bool := true && (zmem fl 11 == false) && (zmem fl 6000 == false) && (zmem l 44 == false) && (zmem l 45 == false) && (zmem l 46 == false)
theorem jEnd_c {S S' : zS} (c0_11 : S' 0 11 = S 0 11) (c6_0 : S' 6 0 = S 6 0) (c44 : S' 44 = S 44) (c45 : S' 45 = S 45) (c46 : S' 46 = S 46) (h : jEnd S) : jEnd S' := by
  unfold jEnd at *
  simp only [c0_11, c6_0, c44, c45, c46] at *
  exact h
theorem jEnd_k {l fl : List Nat} {S S' : zS} (hd : jEnd_o l fl = true) : zkp l fl S S' → jEnd S → jEnd S' := fun h hr => by
  unfold jEnd_o at hd
  simp only [Bool.and_eq_true, beq_iff_eq, true_and] at hd
  exact jEnd_c (h.2 0 11 rfl hd.1.1.1.1) (h.2 6 0 rfl hd.1.1.1.2) (h.1 44 hd.1.1.2) (h.1 45 hd.1.2) (h.1 46 hd.2) hr
def jLT (S : zS) : Prop := (∀ j, j < (S 6 0).toNatClampNeg → S 46 j = 0 → S 40 (S 41 j).toNatClampNeg = 0 ∧ (S 41 j).toInt < (S 5 0).toInt)
def jLT_o (l fl : List Nat) : Bool := true && (zmem fl 6000 == false) && (zmem fl 5000 == false) && (zmem l 40 == false) && (zmem l 41 == false) && (zmem l 46 == false)
theorem jLT_c {S S' : zS} (c6_0 : S' 6 0 = S 6 0) (c5_0 : S' 5 0 = S 5 0) (c40 : S' 40 = S 40) (c41 : S' 41 = S 41) (c46 : S' 46 = S 46) (h : jLT S) : jLT S' := by
  unfold jLT at *
  simp only [c6_0, c5_0, c40, c41, c46] at *
  exact h
theorem jLT_k {l fl : List Nat} {S S' : zS} (hd : jLT_o l fl = true) : zkp l fl S S' → jLT S → jLT S' := fun h hr => by
  unfold jLT_o at hd
  simp only [Bool.and_eq_true, beq_iff_eq, true_and] at hd
  exact jLT_c (h.2 6 0 rfl hd.1.1.1.1) (h.2 5 0 rfl hd.1.1.1.2) (h.1 40 hd.1.1.2) (h.1 41 hd.1.2) (h.1 46 hd.2) hr
def jCnt (n : Nat) (S : zS) : Prop := (∀ s, s < 3 → zn n (S 50 s) ∧ (S 49 s).toInt = (S 50 s).toInt + (jN (S 43) (S 46) s (S 6 0).toNatClampNeg : Nat))
def jCnt_o (l fl : List Nat) : Bool := true && (zmem fl 6000 == false) && (zmem l 43 == false) && (zmem l 46 == false) && (zmem l 49 == false) && (zmem l 50 == false)
theorem jCnt_c {S S' : zS} {n : Nat} (c6_0 : S' 6 0 = S 6 0) (c43 : S' 43 = S 43) (c46 : S' 46 = S 46) (c49 : S' 49 = S 49) (c50 : S' 50 = S 50) (h : jCnt n S) : jCnt n S' := by
  unfold jCnt at *
  simp only [c6_0, c43, c46, c49, c50] at *
  exact h
theorem jCnt_k {n : Nat} {l fl : List Nat} {S S' : zS} (hd : jCnt_o l fl = true) : zkp l fl S S' → jCnt n S → jCnt n S' := fun h hr => by
  unfold jCnt_o at hd
  simp only [Bool.and_eq_true, beq_iff_eq, true_and] at hd
  exact jCnt_c (h.2 6 0 rfl hd.1.1.1.1) (h.1 43 hd.1.1.1.2) (h.1 46 hd.1.1.2) (h.1 49 hd.1.2) (h.1 50 hd.2) hr
theorem jCnt_u {n m : Nat} {S : zS} (hm : n ≤ m) (h : jCnt n S) : jCnt m S := by
  unfold jCnt at *
  exact fun s hs => ⟨zn_mono (h s hs).1 (by omega), (h s hs).2⟩
def jSto (n : Nat) (S : zS) : Prop := (∀ p, p < 216 → zn n (S 51 p)) ∧ (∀ i, ¬ S 54 i = 2 → zn 9999 (S 52 i)) ∧ (∀ i, 0 ≤ (S 53 i).toInt) ∧ (∀ i, zn 2 (S 54 i))
def jSto_o (l fl : List Nat) : Bool := true && (zmem l 51 == false) && (zmem l 52 == false) && (zmem l 53 == false) && (zmem l 54 == false)
theorem jSto_c {S S' : zS} {n : Nat} (c51 : S' 51 = S 51) (c52 : S' 52 = S 52) (c53 : S' 53 = S 53) (c54 : S' 54 = S 54) (h : jSto n S) : jSto n S' := by
  unfold jSto at *
  simp only [c51, c52, c53, c54] at *
  exact h
theorem jSto_k {n : Nat} {l fl : List Nat} {S S' : zS} (hd : jSto_o l fl = true) : zkp l fl S S' → jSto n S → jSto n S' := fun h hr => by
  unfold jSto_o at hd
  simp only [Bool.and_eq_true, beq_iff_eq, true_and] at hd
  exact jSto_c (h.1 51 hd.1.1.1) (h.1 52 hd.1.1.2) (h.1 53 hd.1.2) (h.1 54 hd.2) hr
theorem jSto_u {n m : Nat} {S : zS} (hm : n ≤ m) (h : jSto n S) : jSto m S := by
  unfold jSto at *
  exact ⟨fun p hp => zn_mono (h.1 p hp) (by omega), h.2⟩
def jFar (n : Nat) (S : zS) : Prop := zn n (S 8 5) ∧ zn n (S 8 6) ∧ (S 8 6).toInt ≤ (S 8 5).toInt ∧ zA 512 216 (S 55) ∧ (∀ p, p < 216 → 0 ≤ (S 59 p).toInt ∧ (S 59 p).toInt + (jP (S 55) (S 58) p (S 8 6).toNatClampNeg ((S 8 5).toNatClampNeg - (S 8 6).toNatClampNeg) : Nat) ≤ (S 51 p).toInt)
def jFar_o (l fl : List Nat) : Bool := true && (zmem fl 8005 == false) && (zmem fl 8006 == false) && (zmem l 51 == false) && (zmem l 55 == false) && (zmem l 58 == false) && (zmem l 59 == false)
theorem jFar_c {S S' : zS} {n : Nat} (c8_5 : S' 8 5 = S 8 5) (c8_6 : S' 8 6 = S 8 6) (c51 : S' 51 = S 51) (c55 : S' 55 = S 55) (c58 : S' 58 = S 58) (c59 : S' 59 = S 59) (h : jFar n S) : jFar n S' := by
  unfold jFar at *
  simp only [c8_5, c8_6, c51, c55, c58, c59] at *
  exact h
theorem jFar_k {n : Nat} {l fl : List Nat} {S S' : zS} (hd : jFar_o l fl = true) : zkp l fl S S' → jFar n S → jFar n S' := fun h hr => by
  unfold jFar_o at hd
  simp only [Bool.and_eq_true, beq_iff_eq, true_and] at hd
  exact jFar_c (h.2 8 5 rfl hd.1.1.1.1.1) (h.2 8 6 rfl hd.1.1.1.1.2) (h.1 51 hd.1.1.1.2) (h.1 55 hd.1.1.2) (h.1 58 hd.1.2) (h.1 59 hd.2) hr
theorem jFar_u {n m : Nat} {S : zS} (hm : n ≤ m) (h : jFar n S) : jFar m S := by
  unfold jFar at *
  exact ⟨zn_mono h.1 (by omega), zn_mono h.2.1 (by omega), h.2.2⟩
def jWra (S : zS) : Prop := zn 20 (S 10 0) ∧ (∀ j, j < (S 10 0).toNatClampNeg → zn 9999 (S 63 j)) ∧ (∀ j, (S 10 0).toNatClampNeg ≤ j → S 65 j = 0)
def jWra_o (l fl : List Nat) : Bool := true && (zmem fl 10000 == false) && (zmem l 63 == false) && (zmem l 65 == false)
theorem jWra_c {S S' : zS} (c10_0 : S' 10 0 = S 10 0) (c63 : S' 63 = S 63) (c65 : S' 65 = S 65) (h : jWra S) : jWra S' := by
  unfold jWra at *
  simp only [c10_0, c63, c65] at *
  exact h
theorem jWra_k {l fl : List Nat} {S S' : zS} (hd : jWra_o l fl = true) : zkp l fl S S' → jWra S → jWra S' := fun h hr => by
  unfold jWra_o at hd
  simp only [Bool.and_eq_true, beq_iff_eq, true_and] at hd
  exact jWra_c (h.2 10 0 rfl hd.1.1) (h.1 63 hd.1.2) (h.1 65 hd.2) hr
def jCas (S : zS) : Prop := zn 20 (S 10 4) ∧ (∀ j, (S 10 4).toNatClampNeg ≤ j → S 71 j = 0 ∧ S 70 j = 0) ∧ (∀ j, zn 255 (S 70 j)) ∧ zA 20 40 (S 66) ∧ zA 20 216 (S 67) ∧ (S 5 0 = 0 → S 10 4 = 0)
def jCas_o (l fl : List Nat) : Bool := true && (zmem fl 10004 == false) && (zmem fl 5000 == false) && (zmem l 66 == false) && (zmem l 67 == false) && (zmem l 70 == false) && (zmem l 71 == false)
theorem jCas_c {S S' : zS} (c10_4 : S' 10 4 = S 10 4) (c5_0 : S' 5 0 = S 5 0) (c66 : S' 66 = S 66) (c67 : S' 67 = S 67) (c70 : S' 70 = S 70) (c71 : S' 71 = S 71) (h : jCas S) : jCas S' := by
  unfold jCas at *
  simp only [c10_4, c5_0, c66, c67, c70, c71] at *
  exact h
theorem jCas_k {l fl : List Nat} {S S' : zS} (hd : jCas_o l fl = true) : zkp l fl S S' → jCas S → jCas S' := fun h hr => by
  unfold jCas_o at hd
  simp only [Bool.and_eq_true, beq_iff_eq, true_and] at hd
  exact jCas_c (h.2 10 4 rfl hd.1.1.1.1.1) (h.2 5 0 rfl hd.1.1.1.1.2) (h.1 66 hd.1.1.1.2) (h.1 67 hd.1.1.2) (h.1 70 hd.1.2) (h.1 71 hd.2) hr
def jCer (S : zS) : Prop := zn 30 (S 11 0) ∧ (∀ c, c < (S 11 0).toNatClampNeg → 0 ≤ (S 74 c).toInt ∧ (S 74 c).toInt ≤ c ∧ S 74 (S 74 c).toNatClampNeg = S 74 c) ∧ (∀ c, c < (S 11 0).toNatClampNeg → zx 216 (S 72 c) ∧ (zrem (S 72 c) 6 = 0 → S 74 c = Int32.ofNat c)) ∧ (∀ c, zo (S 75 c)) ∧ (∀ c, zo (S 76 c)) ∧ (∀ c, (S 11 0).toNatClampNeg ≤ c → S 75 c = 0 ∧ S 76 c = 0)
def jCer_o (l fl : List Nat) : Bool := true && (zmem fl 11000 == false) && (zmem l 72 == false) && (zmem l 74 == false) && (zmem l 75 == false) && (zmem l 76 == false)
theorem jCer_c {S S' : zS} (c11_0 : S' 11 0 = S 11 0) (c72 : S' 72 = S 72) (c74 : S' 74 = S 74) (c75 : S' 75 = S 75) (c76 : S' 76 = S 76) (h : jCer S) : jCer S' := by
  unfold jCer at *
  simp only [c11_0, c72, c74, c75, c76] at *
  exact h
theorem jCer_k {l fl : List Nat} {S S' : zS} (hd : jCer_o l fl = true) : zkp l fl S S' → jCer S → jCer S' := fun h hr => by
  unfold jCer_o at hd
  simp only [Bool.and_eq_true, beq_iff_eq, true_and] at hd
  exact jCer_c (h.2 11 0 rfl hd.1.1.1.1) (h.1 72 hd.1.1.1.2) (h.1 74 hd.1.1.2) (h.1 75 hd.1.2) (h.1 76 hd.2) hr
def jSin (S : zS) : Prop := (∀ j, zo (S 77 j)) ∧ (∀ j, zo (S 78 j)) ∧ (∀ j, j < 3 → zn 1000 (S 79 j)) ∧ (∀ j, j < 3 → zx 65521 (S 80 j))
def jSin_o (l fl : List Nat) : Bool := true && (zmem l 77 == false) && (zmem l 78 == false) && (zmem l 79 == false) && (zmem l 80 == false)
theorem jSin_c {S S' : zS} (c77 : S' 77 = S 77) (c78 : S' 78 = S 78) (c79 : S' 79 = S 79) (c80 : S' 80 = S 80) (h : jSin S) : jSin S' := by
  unfold jSin at *
  simp only [c77, c78, c79, c80] at *
  exact h
theorem jSin_k {l fl : List Nat} {S S' : zS} (hd : jSin_o l fl = true) : zkp l fl S S' → jSin S → jSin S' := fun h hr => by
  unfold jSin_o at hd
  simp only [Bool.and_eq_true, beq_iff_eq, true_and] at hd
  exact jSin_c (h.1 77 hd.1.1.1) (h.1 78 hd.1.1.2) (h.1 79 hd.1.2) (h.1 80 hd.2) hr
def jI (n : Nat) (S : zS) : Prop := jSea S ∧ jKey n S ∧ jEng S ∧ jPpl S ∧ jTok S ∧ jTim S ∧ jUse S ∧ jLea S ∧ jEnd S ∧ jLT S ∧ jCnt n S ∧ jSto n S ∧ jFar n S ∧ jWra S ∧ jCas S ∧ jCer S ∧ jSin S
theorem jI_Sea {n : Nat} {S : zS} (h : jI n S) : jSea S := by unfold jI at h; exact h.1
theorem jI_Key {n : Nat} {S : zS} (h : jI n S) : jKey n S := by unfold jI at h; exact h.2.1
theorem jI_Eng {n : Nat} {S : zS} (h : jI n S) : jEng S := by unfold jI at h; exact h.2.2.1
theorem jI_Ppl {n : Nat} {S : zS} (h : jI n S) : jPpl S := by unfold jI at h; exact h.2.2.2.1
theorem jI_Tok {n : Nat} {S : zS} (h : jI n S) : jTok S := by unfold jI at h; exact h.2.2.2.2.1
theorem jI_Tim {n : Nat} {S : zS} (h : jI n S) : jTim S := by unfold jI at h; exact h.2.2.2.2.2.1
theorem jI_Use {n : Nat} {S : zS} (h : jI n S) : jUse S := by unfold jI at h; exact h.2.2.2.2.2.2.1
theorem jI_Lea {n : Nat} {S : zS} (h : jI n S) : jLea S := by unfold jI at h; exact h.2.2.2.2.2.2.2.1
theorem jI_End {n : Nat} {S : zS} (h : jI n S) : jEnd S := by unfold jI at h; exact h.2.2.2.2.2.2.2.2.1
theorem jI_LT {n : Nat} {S : zS} (h : jI n S) : jLT S := by unfold jI at h; exact h.2.2.2.2.2.2.2.2.2.1
theorem jI_Cnt {n : Nat} {S : zS} (h : jI n S) : jCnt n S := by unfold jI at h; exact h.2.2.2.2.2.2.2.2.2.2.1
theorem jI_Sto {n : Nat} {S : zS} (h : jI n S) : jSto n S := by unfold jI at h; exact h.2.2.2.2.2.2.2.2.2.2.2.1
theorem jI_Far {n : Nat} {S : zS} (h : jI n S) : jFar n S := by unfold jI at h; exact h.2.2.2.2.2.2.2.2.2.2.2.2.1
theorem jI_Wra {n : Nat} {S : zS} (h : jI n S) : jWra S := by unfold jI at h; exact h.2.2.2.2.2.2.2.2.2.2.2.2.2.1
theorem jI_Cas {n : Nat} {S : zS} (h : jI n S) : jCas S := by unfold jI at h; exact h.2.2.2.2.2.2.2.2.2.2.2.2.2.2.1
theorem jI_Cer {n : Nat} {S : zS} (h : jI n S) : jCer S := by unfold jI at h; exact h.2.2.2.2.2.2.2.2.2.2.2.2.2.2.2.1
theorem jI_Sin {n : Nat} {S : zS} (h : jI n S) : jSin S := by unfold jI at h; exact h.2.2.2.2.2.2.2.2.2.2.2.2.2.2.2.2
theorem jI_u {n m : Nat} {S : zS} (hm : n ≤ m) (h : jI n S) : jI m S := by
  unfold jI
  exact ⟨jI_Sea h, jKey_u hm (jI_Key h), jI_Eng h, jI_Ppl h, jI_Tok h, jI_Tim h, jI_Use h, jI_Lea h, jI_End h, jI_LT h, jCnt_u hm (jI_Cnt h), jSto_u hm (jI_Sto h), jFar_u hm (jI_Far h), jI_Wra h, jI_Cas h, jI_Cer h, jI_Sin h⟩
def jJ (n : Nat) (S : zS) : Prop := jSea S ∧ jKey n S ∧ jEng S ∧ jPpl S ∧ jTok S ∧ jTim S ∧ jLea S ∧ jEnd S ∧ jLT S ∧ jCnt n S ∧ jSto n S ∧ jFar n S ∧ jWra S ∧ jCas S ∧ jCer S ∧ jSin S
theorem jJ_Sea {n : Nat} {S : zS} (h : jJ n S) : jSea S := by unfold jJ at h; exact h.1
theorem jJ_Key {n : Nat} {S : zS} (h : jJ n S) : jKey n S := by unfold jJ at h; exact h.2.1
theorem jJ_Eng {n : Nat} {S : zS} (h : jJ n S) : jEng S := by unfold jJ at h; exact h.2.2.1
theorem jJ_Ppl {n : Nat} {S : zS} (h : jJ n S) : jPpl S := by unfold jJ at h; exact h.2.2.2.1
theorem jJ_Tok {n : Nat} {S : zS} (h : jJ n S) : jTok S := by unfold jJ at h; exact h.2.2.2.2.1
theorem jJ_Tim {n : Nat} {S : zS} (h : jJ n S) : jTim S := by unfold jJ at h; exact h.2.2.2.2.2.1
theorem jJ_Lea {n : Nat} {S : zS} (h : jJ n S) : jLea S := by unfold jJ at h; exact h.2.2.2.2.2.2.1
theorem jJ_End {n : Nat} {S : zS} (h : jJ n S) : jEnd S := by unfold jJ at h; exact h.2.2.2.2.2.2.2.1
theorem jJ_LT {n : Nat} {S : zS} (h : jJ n S) : jLT S := by unfold jJ at h; exact h.2.2.2.2.2.2.2.2.1
theorem jJ_Cnt {n : Nat} {S : zS} (h : jJ n S) : jCnt n S := by unfold jJ at h; exact h.2.2.2.2.2.2.2.2.2.1
theorem jJ_Sto {n : Nat} {S : zS} (h : jJ n S) : jSto n S := by unfold jJ at h; exact h.2.2.2.2.2.2.2.2.2.2.1
theorem jJ_Far {n : Nat} {S : zS} (h : jJ n S) : jFar n S := by unfold jJ at h; exact h.2.2.2.2.2.2.2.2.2.2.2.1
theorem jJ_Wra {n : Nat} {S : zS} (h : jJ n S) : jWra S := by unfold jJ at h; exact h.2.2.2.2.2.2.2.2.2.2.2.2.1
theorem jJ_Cas {n : Nat} {S : zS} (h : jJ n S) : jCas S := by unfold jJ at h; exact h.2.2.2.2.2.2.2.2.2.2.2.2.2.1
theorem jJ_Cer {n : Nat} {S : zS} (h : jJ n S) : jCer S := by unfold jJ at h; exact h.2.2.2.2.2.2.2.2.2.2.2.2.2.2.1
theorem jJ_Sin {n : Nat} {S : zS} (h : jJ n S) : jSin S := by unfold jJ at h; exact h.2.2.2.2.2.2.2.2.2.2.2.2.2.2.2
theorem jJ_u {n m : Nat} {S : zS} (hm : n ≤ m) (h : jJ n S) : jJ m S := by
  unfold jJ
  exact ⟨jJ_Sea h, jKey_u hm (jJ_Key h), jJ_Eng h, jJ_Ppl h, jJ_Tok h, jJ_Tim h, jJ_Lea h, jJ_End h, jJ_LT h, jCnt_u hm (jJ_Cnt h), jSto_u hm (jJ_Sto h), jFar_u hm (jJ_Far h), jJ_Wra h, jJ_Cas h, jJ_Cer h, jJ_Sin h⟩
theorem jI_J {n : Nat} {S : zS} (h : jI n S) : jJ n S := by
  unfold jJ
  exact ⟨jI_Sea h, jI_Key h, jI_Eng h, jI_Ppl h, jI_Tok h, jI_Tim h, jI_Lea h, jI_End h, jI_LT h, jI_Cnt h, jI_Sto h, jI_Far h, jI_Wra h, jI_Cas h, jI_Cer h, jI_Sin h⟩
theorem jJ_I {n : Nat} {S : zS} (h : jJ n S) (hu : jUse S) : jI n S := by
  unfold jI
  exact ⟨jJ_Sea h, jJ_Key h, jJ_Eng h, jJ_Ppl h, jJ_Tok h, jJ_Tim h, hu, jJ_Lea h, jJ_End h, jJ_LT h, jJ_Cnt h, jJ_Sto h, jJ_Far h, jJ_Wra h, jJ_Cas h, jJ_Cer h, jJ_Sin h⟩
theorem rSea_0 {S : zS} (h : jSea S) : zo (S 1 6) := by unfold jSea at h; exact h.1
theorem rSea_1 {S : zS} (h : jSea S) : (1 ≤ (S 1 1).toInt ∧ (S 1 1).toInt ≤ 6) := by unfold jSea at h; exact h.2.1
theorem rSea_2 {S : zS} (h : jSea S) : (1 ≤ (S 1 2).toInt ∧ (S 1 2).toInt ≤ (S 1 1).toInt) := by unfold jSea at h; exact h.2.2.1
theorem rSea_3 {S : zS} (h : jSea S) : (∀ i, i < 7 → S 15 i = -1) := by unfold jSea at h; exact h.2.2.2.1
theorem rSea_4 {S : zS} (h : jSea S) : S 1 5 = 0 := by unfold jSea at h; exact h.2.2.2.2.1
theorem rSea_5 {S : zS} (h : jSea S) : jPol (S 1 0) (S 1 1) (S 1 2) (S 14) := by unfold jSea at h; exact h.2.2.2.2.2.1
theorem rSea_6 {S : zS} (h : jSea S) : (∀ i : Nat, 1 ≤ i → (i : Int) ≤ (S 1 1).toInt → zn 256 (S 14 i)) := by unfold jSea at h; exact h.2.2.2.2.2.2
theorem rKey_0 {n : Nat} {S : zS} (h : jKey n S) : zn (50 * n) (S 0 11) := by unfold jKey at h; exact h.1
theorem rKey_1 {n : Nat} {S : zS} (h : jKey n S) : 1 ≤ (S 2 3).toInt := by unfold jKey at h; exact h.2.1
theorem rKey_2 {n : Nat} {S : zS} (h : jKey n S) : (S 2 3).toInt ≤ (S 2 0).toInt := by unfold jKey at h; exact h.2.2.1
theorem rKey_3 {n : Nat} {S : zS} (h : jKey n S) : (S 2 0).toInt ≤ 1 + 60 * n := by unfold jKey at h; exact h.2.2.2
theorem rEng_0 {S : zS} (h : jEng S) : (∀ f, f < 6 → -1 ≤ (S 16 f).toInt ∧ (S 16 f).toInt ≤ 2) := by unfold jEng at h; exact h.1
theorem rEng_1 {S : zS} (h : jEng S) : zA 6 3 (S 17) := by unfold jEng at h; exact h.2.1
theorem rEng_2 {S : zS} (h : jEng S) : (∀ f, f < 6 → zn 100 (S 18 f)) := by unfold jEng at h; exact h.2.2
theorem rPpl_0 {S : zS} (h : jPpl S) : (∀ j, j < 18 → -1 ≤ (S 24 j).toInt ∧ (S 24 j).toInt ≤ 7) := by unfold jPpl at h; exact h.1
theorem rPpl_1 {S : zS} (h : jPpl S) : (∀ j, j < 8 → zn 255 (S 26 j)) := by unfold jPpl at h; exact h.2.1
theorem rPpl_2 {S : zS} (h : jPpl S) : (∀ j, j < 4 → zn 255 (S 27 j)) := by unfold jPpl at h; exact h.2.2
theorem rTok_0 {S : zS} (h : jTok S) : zn 40 (S 5 0) := by unfold jTok at h; exact h.1
theorem rTok_1 {S : zS} (h : jTok S) : (∀ j, -1 ≤ (S 32 j).toInt ∧ (S 32 j).toInt ≤ 7) := by unfold jTok at h; exact h.2.1
theorem rTok_2 {S : zS} (h : jTok S) : (∀ j, zo (S 39 j)) := by unfold jTok at h; exact h.2.2.1
theorem rTok_3 {S : zS} (h : jTok S) : (∀ j, zo (S 40 j)) := by unfold jTok at h; exact h.2.2.2.1
theorem rTok_4 {S : zS} (h : jTok S) : (∀ j, (S 5 0).toNatClampNeg ≤ j → S 40 j = 0) := by unfold jTok at h; exact h.2.2.2.2.1
theorem rTok_5 {S : zS} (h : jTok S) : (∀ j, -1 ≤ (S 37 j).toInt ∧ (S 37 j).toInt ≤ 20) := by unfold jTok at h; exact h.2.2.2.2.2.1
theorem rTok_6 {S : zS} (h : jTok S) : (∀ j, j < (S 5 0).toNatClampNeg → S 31 j = 2 → 1 ≤ (S 36 j).toInt ∧ (S 36 j).toInt ≤ 100) := by unfold jTok at h; exact h.2.2.2.2.2.2
theorem rTim_0 {S : zS} (h : jTim S) : (∀ j, j < (S 5 0).toNatClampNeg → S 40 j = 0 → (S 0 11).toInt < (S 34 j).toInt ∧ (¬ S 31 j = 2 → (S 34 j).toInt ≤ (S 35 j).toInt)) := by unfold jTim at h; exact h
theorem rUse_0 {S : zS} (h : jUse S) : (∀ j, j < (S 5 0).toNatClampNeg → S 40 j = 0 → ¬ S 37 j = 0) := by unfold jUse at h; exact h
theorem rLea_0 {S : zS} (h : jLea S) : zn 40 (S 6 0) := by unfold jLea at h; exact h.1
theorem rLea_1 {S : zS} (h : jLea S) : zA 40 40 (S 41) := by unfold jLea at h; exact h.2.1
theorem rLea_2 {S : zS} (h : jLea S) : zA 40 3 (S 43) := by unfold jLea at h; exact h.2.2.1
theorem rLea_3 {S : zS} (h : jLea S) : (∀ j, zn 3 (S 46 j)) := by unfold jLea at h; exact h.2.2.2.1
theorem rLea_4 {S : zS} (h : jLea S) : (∀ j, j < 3 → zn 2 (S 48 j)) := by unfold jLea at h; exact h.2.2.2.2
theorem rEnd_0 {S : zS} (h : jEnd S) : (∀ j, j < (S 6 0).toNatClampNeg → (S 46 j = 0 → (S 0 11).toInt < (S 44 j).toInt ∧ (S 44 j).toInt ≤ (S 45 j).toInt) ∧ (¬ S 46 j = 0 → (S 44 j).toInt ≤ (S 0 11).toInt)) := by unfold jEnd at h; exact h
theorem rLT_0 {S : zS} (h : jLT S) : (∀ j, j < (S 6 0).toNatClampNeg → S 46 j = 0 → S 40 (S 41 j).toNatClampNeg = 0 ∧ (S 41 j).toInt < (S 5 0).toInt) := by unfold jLT at h; exact h
theorem rCnt_0 {n : Nat} {S : zS} (h : jCnt n S) : (∀ s, s < 3 → zn n (S 50 s) ∧ (S 49 s).toInt = (S 50 s).toInt + (jN (S 43) (S 46) s (S 6 0).toNatClampNeg : Nat)) := by unfold jCnt at h; exact h
theorem rSto_0 {n : Nat} {S : zS} (h : jSto n S) : (∀ p, p < 216 → zn n (S 51 p)) := by unfold jSto at h; exact h.1
theorem rSto_1 {n : Nat} {S : zS} (h : jSto n S) : (∀ i, ¬ S 54 i = 2 → zn 9999 (S 52 i)) := by unfold jSto at h; exact h.2.1
theorem rSto_2 {n : Nat} {S : zS} (h : jSto n S) : (∀ i, 0 ≤ (S 53 i).toInt) := by unfold jSto at h; exact h.2.2.1
theorem rSto_3 {n : Nat} {S : zS} (h : jSto n S) : (∀ i, zn 2 (S 54 i)) := by unfold jSto at h; exact h.2.2.2
theorem rFar_0 {n : Nat} {S : zS} (h : jFar n S) : zn n (S 8 5) := by unfold jFar at h; exact h.1
theorem rFar_1 {n : Nat} {S : zS} (h : jFar n S) : zn n (S 8 6) := by unfold jFar at h; exact h.2.1
theorem rFar_2 {n : Nat} {S : zS} (h : jFar n S) : (S 8 6).toInt ≤ (S 8 5).toInt := by unfold jFar at h; exact h.2.2.1
theorem rFar_3 {n : Nat} {S : zS} (h : jFar n S) : zA 512 216 (S 55) := by unfold jFar at h; exact h.2.2.2.1
theorem rFar_4 {n : Nat} {S : zS} (h : jFar n S) : (∀ p, p < 216 → 0 ≤ (S 59 p).toInt ∧ (S 59 p).toInt + (jP (S 55) (S 58) p (S 8 6).toNatClampNeg ((S 8 5).toNatClampNeg - (S 8 6).toNatClampNeg) : Nat) ≤ (S 51 p).toInt) := by unfold jFar at h; exact h.2.2.2.2
theorem rWra_0 {S : zS} (h : jWra S) : zn 20 (S 10 0) := by unfold jWra at h; exact h.1
theorem rWra_1 {S : zS} (h : jWra S) : (∀ j, j < (S 10 0).toNatClampNeg → zn 9999 (S 63 j)) := by unfold jWra at h; exact h.2.1
theorem rWra_2 {S : zS} (h : jWra S) : (∀ j, (S 10 0).toNatClampNeg ≤ j → S 65 j = 0) := by unfold jWra at h; exact h.2.2
theorem rCas_0 {S : zS} (h : jCas S) : zn 20 (S 10 4) := by unfold jCas at h; exact h.1
theorem rCas_1 {S : zS} (h : jCas S) : (∀ j, (S 10 4).toNatClampNeg ≤ j → S 71 j = 0 ∧ S 70 j = 0) := by unfold jCas at h; exact h.2.1
theorem rCas_2 {S : zS} (h : jCas S) : (∀ j, zn 255 (S 70 j)) := by unfold jCas at h; exact h.2.2.1
theorem rCas_3 {S : zS} (h : jCas S) : zA 20 40 (S 66) := by unfold jCas at h; exact h.2.2.2.1
theorem rCas_4 {S : zS} (h : jCas S) : zA 20 216 (S 67) := by unfold jCas at h; exact h.2.2.2.2.1
theorem rCas_5 {S : zS} (h : jCas S) : (S 5 0 = 0 → S 10 4 = 0) := by unfold jCas at h; exact h.2.2.2.2.2
theorem rCer_0 {S : zS} (h : jCer S) : zn 30 (S 11 0) := by unfold jCer at h; exact h.1
theorem rCer_1 {S : zS} (h : jCer S) : (∀ c, c < (S 11 0).toNatClampNeg → 0 ≤ (S 74 c).toInt ∧ (S 74 c).toInt ≤ c ∧ S 74 (S 74 c).toNatClampNeg = S 74 c) := by unfold jCer at h; exact h.2.1
theorem rCer_2 {S : zS} (h : jCer S) : (∀ c, c < (S 11 0).toNatClampNeg → zx 216 (S 72 c) ∧ (zrem (S 72 c) 6 = 0 → S 74 c = Int32.ofNat c)) := by unfold jCer at h; exact h.2.2.1
theorem rCer_3 {S : zS} (h : jCer S) : (∀ c, zo (S 75 c)) := by unfold jCer at h; exact h.2.2.2.1
theorem rCer_4 {S : zS} (h : jCer S) : (∀ c, zo (S 76 c)) := by unfold jCer at h; exact h.2.2.2.2.1
theorem rCer_5 {S : zS} (h : jCer S) : (∀ c, (S 11 0).toNatClampNeg ≤ c → S 75 c = 0 ∧ S 76 c = 0) := by unfold jCer at h; exact h.2.2.2.2.2
theorem rSin_0 {S : zS} (h : jSin S) : (∀ j, zo (S 77 j)) := by unfold jSin at h; exact h.1
theorem rSin_1 {S : zS} (h : jSin S) : (∀ j, zo (S 78 j)) := by unfold jSin at h; exact h.2.1
theorem rSin_2 {S : zS} (h : jSin S) : (∀ j, j < 3 → zn 1000 (S 79 j)) := by unfold jSin at h; exact h.2.2.1
theorem rSin_3 {S : zS} (h : jSin S) : (∀ j, j < 3 → zx 65521 (S 80 j)) := by unfold jSin at h; exact h.2.2.2
