/-! rights: the class's and the reference's are alike -/
theorem zf3 {α : Type} (f : Nat → α → α) (a : α) : zfold f 0 (3 - 0) a = f 2 (f 1 (f 0 a)) := rfl
theorem zf4 {α : Type} (f : Nat → α → α) (a : α) : zfold f 0 (4 - 0) a = f 3 (f 2 (f 1 (f 0 a))) := rfl
theorem zlsb0 : ∀ i, i < 32 → (0 : Int32).toBitVec.getLsbD i = false := by decide
theorem zbe {x y : Int32} (h : ∀ i, i < 32 → x.toBitVec.getLsbD i = y.toBitVec.getLsbD i) : x = y := by
  apply Int32.toBitVec_inj.mp
  apply BitVec.eq_of_getLsbD_eq
  exact h
/-- a set of bits in another one -/
def zsu (X P : Int32) : Prop := X ||| P = P
theorem zand_sub {E X P : Int32} (h : zsu X P) (h0 : E &&& P = 0) : E &&& X = 0 := by
  unfold zsu at h
  apply zbe
  intro i hi
  have h1 : (X ||| P).toBitVec.getLsbD i = P.toBitVec.getLsbD i := by rw [h]
  have h2 : (E &&& P).toBitVec.getLsbD i = (0 : Int32).toBitVec.getLsbD i := by rw [h0]
  rw [zlsb0 i hi] at h2 ⊢
  rw [Int32.toBitVec_or, BitVec.getLsbD_or] at h1
  rw [Int32.toBitVec_and, BitVec.getLsbD_and] at h2 ⊢
  revert h1 h2
  cases X.toBitVec.getLsbD i <;> cases P.toBitVec.getLsbD i <;> cases E.toBitVec.getLsbD i <;> simp
theorem zsu_0 (P : Int32) : zsu 0 P := by unfold zsu; rw [Int32.or_comm, Int32.or_zero]
theorem zsu_l {X M : Int32} : zsu X (X ||| M) := by unfold zsu; rw [← Int32.or_assoc, Int32.or_self]
theorem zsu_r {X M : Int32} : zsu M (X ||| M) := by unfold zsu; rw [Int32.or_comm X M, ← Int32.or_assoc, Int32.or_self]
theorem zsu_or {X M P : Int32} (h : zsu X P) (h2 : zsu M P) : zsu (X ||| M) P := by unfold zsu at *; rw [Int32.or_assoc, h2, h]
theorem zsu_tr {X P Q : Int32} (h : zsu X P) (h2 : zsu P Q) : zsu X Q := by
  unfold zsu at *
  rw [← h2, ← Int32.or_assoc, h]
theorem zsu_anti {X P : Int32} (h : zsu X P) (h2 : zsu P X) : X = P := by
  unfold zsu at *
  rw [← h, Int32.or_comm, h2]
def zgT (x : Int32) (f g : Nat → Int32) (j : Nat) (X : Int32) : Int32 := if (((zshr (f j) x) &&& 1) = 1) ∨ (¬ ((g j &&& X) = 0)) then zshl 1 (Int32.ofNat j) else 0
def zgS (x : Int32) (f g : Nat → Int32) (j : Nat) (X : Int32) : Int32 := X ||| zgT x f g j X
def zgF (x : Int32) (f g : Nat → Int32) (X : Int32) : Int32 := zgS x f g 3 (zgS x f g 2 (zgS x f g 1 (zgS x f g 0 X)))
def zgW (x : Int32) (f g : Nat → Int32) (X : Int32) : Int32 := (((X ||| zgT x f g 0 X) ||| zgT x f g 1 X) ||| zgT x f g 2 X) ||| zgT x f g 3 X
def zgC (x : Int32) (f g : Nat → Int32) (P : Int32) : Prop := ∀ j, j < 4 → zsu (zgT x f g j P) P
section ZGS
variable {x : Int32} {f g : Nat → Int32} {X P R : Int32}
theorem zgT_m {j : Nat} (h : zsu X P) (hc : zsu (zgT x f g j P) P) : zsu (zgT x f g j X) P := by
  unfold zgT at hc ⊢
  by_cases h1 : (((zshr (f j) x) &&& 1) = 1) ∨ (¬ ((g j &&& X) = 0))
  · rw [if_pos h1]
    have h2 : (((zshr (f j) x) &&& 1) = 1) ∨ (¬ ((g j &&& P) = 0)) := h1.imp id (fun h3 h4 => h3 (zand_sub h h4))
    rw [if_pos h2] at hc
    exact hc
  · rw [if_neg h1]; exact zsu_0 P
theorem zgF_sub (hc : zgC x f g P) (h : zsu X P) : zsu (zgF x f g X) P := by
  have st : ∀ j, j < 4 → ∀ Y, zsu Y P → zsu (zgS x f g j Y) P := fun j hj Y hY => zsu_or hY (zgT_m hY (hc j hj))
  exact st 3 (by decide) _ (st 2 (by decide) _ (st 1 (by decide) _ (st 0 (by decide) _ h)))
theorem zgW_sub (hc : zgC x f g P) (h : zsu X P) : zsu (zgW x f g X) P :=
  zsu_or (zsu_or (zsu_or (zsu_or h (zgT_m h (hc 0 (by decide)))) (zgT_m h (hc 1 (by decide)))) (zgT_m h (hc 2 (by decide)))) (zgT_m h (hc 3 (by decide)))
theorem zgW_cl (h : zgW x f g R = R) : zgC x f g R := by
  have k0 : zsu (zgT x f g 0 R) (zgW x f g R) := zsu_tr zsu_r (zsu_tr zsu_l (zsu_tr zsu_l zsu_l))
  have k1 : zsu (zgT x f g 1 R) (zgW x f g R) := zsu_tr zsu_r (zsu_tr zsu_l zsu_l)
  have k2 : zsu (zgT x f g 2 R) (zgW x f g R) := zsu_tr zsu_r zsu_l
  have k3 : zsu (zgT x f g 3 R) (zgW x f g R) := zsu_r
  rw [h] at k0 k1 k2 k3
  intro j hj
  have h4 : j = 0 ∨ j = 1 ∨ j = 2 ∨ j = 3 := by omega
  rcases h4 with rfl | rfl | rfl | rfl
  · exact k0
  · exact k1
  · exact k2
  · exact k3
theorem zgF_cl (h : zgF x f g X = X) : zgC x f g X := by
  have u0 : zsu (zgS x f g 0 X) (zgF x f g X) := zsu_tr zsu_l (zsu_tr zsu_l zsu_l)
  rw [h] at u0
  have e0 : zgS x f g 0 X = X := zsu_anti u0 zsu_l
  have h1 : zgS x f g 3 (zgS x f g 2 (zgS x f g 1 X)) = X := by have := h; unfold zgF at this; rw [e0] at this; exact this
  have u1 : zsu (zgS x f g 1 X) (zgS x f g 3 (zgS x f g 2 (zgS x f g 1 X))) := zsu_tr zsu_l zsu_l
  rw [h1] at u1
  have e1 : zgS x f g 1 X = X := zsu_anti u1 zsu_l
  have h2 : zgS x f g 3 (zgS x f g 2 X) = X := by have := h1; rw [e1] at this; exact this
  have u2 : zsu (zgS x f g 2 X) (zgS x f g 3 (zgS x f g 2 X)) := zsu_l
  rw [h2] at u2
  have e2 : zgS x f g 2 X = X := zsu_anti u2 zsu_l
  have e3 : zgS x f g 3 X = X := by have := h2; rw [e2] at this; exact this
  intro j hj
  have h4 : j = 0 ∨ j = 1 ∨ j = 2 ∨ j = 3 := by omega
  rcases h4 with rfl | rfl | rfl | rfl
  · exact (Int32.or_comm _ _).trans e0
  · exact (Int32.or_comm _ _).trans e1
  · exact (Int32.or_comm _ _).trans e2
  · exact (Int32.or_comm _ _).trans e3
theorem zgS_zn {j : Nat} (hj : j < 4) (h : zn 15 X) : zn 15 (zgS x f g j X) := by
  unfold zgS zgT
  exact (zor_zn h j hj _).1
theorem zgF_zn (h : zn 15 X) : zn 15 (zgF x f g X) := zgS_zn (by decide) (zgS_zn (by decide) (zgS_zn (by decide) (zgS_zn (by decide) h)))
theorem zgF_l : zsu X (zgF x f g X) := zsu_tr zsu_l (zsu_tr zsu_l (zsu_tr zsu_l zsu_l))
end ZGS
/-- how many bits -/
def zbn (x : Int32) : Nat := x.toNatClampNeg % 2 + x.toNatClampNeg / 2 % 2 + x.toNatClampNeg / 4 % 2 + x.toNatClampNeg / 8 % 2
theorem zbn_lt : ∀ a, a < 16 → ∀ b, b < 16 → (Int32.ofNat a ||| Int32.ofNat b) = Int32.ofNat b → a = b ∨ zbn (Int32.ofNat a) < zbn (Int32.ofNat b) := by decide +kernel
theorem zbn_s {X Y : Int32} (hx : zn 15 X) (hy : zn 15 Y) (h : zsu X Y) : Y = X ∨ zbn X < zbn Y := by
  have h1 := zn_cl hx
  have h2 := zn_cl hy
  have e1 := zk_of hx.1
  have e2 := zk_of hy.1
  have k := zbn_lt X.toNatClampNeg (by omega) Y.toNatClampNeg (by omega)
  rw [e1, e2] at k
  rcases k h with k | k
  · exact Or.inl (e2.symm.trans ((congrArg Int32.ofNat k.symm).trans e1))
  · exact Or.inr k
theorem zbn_4 (x : Int32) : zbn x ≤ 4 := by unfold zbn; omega
theorem zgF4 {x : Int32} {f g : Nat → Int32} : zgC x f g (zgF x f g (zgF x f g (zgF x f g (zgF x f g 0)))) := by
  apply zgF_cl
  have gr : ∀ X, zn 15 X → zgF x f g X = X ∨ zbn X < zbn (zgF x f g X) := fun X hX => zbn_s hX (zgF_zn hX) zgF_l
  have z0 : zn 15 (0 : Int32) := by unfold zn; decide
  have z1 := zgF_zn (x := x) (f := f) (g := g) z0
  have z2 := zgF_zn (x := x) (f := f) (g := g) z1
  have z3 := zgF_zn (x := x) (f := f) (g := g) z2
  have z4 := zgF_zn (x := x) (f := f) (g := g) z3
  rcases gr _ z0 with h | h0
  · simp only [h]
  rcases gr _ z1 with h | h1
  · simp only [h]
  rcases gr _ z2 with h | h2
  · simp only [h]
  rcases gr _ z3 with h | h3
  · simp only [h]
  rcases gr _ z4 with h | h4
  · exact h
  have := zbn_4 (zgF x f g (zgF x f g (zgF x f g (zgF x f g (zgF x f g 0)))))
  omega
theorem zite_or {P : Prop} [Decidable P] (a b : Int32) : (if P then (a ||| b) else a) = a ||| (if P then b else 0) := by
  split
  · rfl
  · rw [Int32.or_zero]
theorem zgK (b : Int32) (S : zS) : K79_4_c2 b 0 (none : Option zV) 0 S = zgF b (S 28) (S 29) (zgF b (S 28) (S 29) (zgF b (S 28) (S 29) (zgF b (S 28) (S 29) 0))) := by
  have hs : ∀ (x3 : Int32) (j : Nat) (a : Int32), k79_9 b x3 S j a = zgS b (S 28) (S 29) j a := by
    intro x3 j a
    unfold k79_9 zgS zgT
    by_cases h1 : ((zshr (S 28 j) b) &&& 1) = 1
    · rw [if_pos h1, if_pos (Or.inl h1)]
    · rw [if_neg h1]
      by_cases h2 : ((S 29 j) &&& a) = 0
      · rw [if_pos h2, if_neg (fun h => h.elim h1 (fun h => h h2)), Int32.or_zero]
      · rw [if_neg h2, if_pos (Or.inr h2)]
  have hF : ∀ X x3 : Int32, K79_9_c2 b X x3 0 S = zgF b (S 28) (S 29) X := by
    intro X x3
    unfold K79_9_c2 K79_9
    rw [zf4, hs, hs, hs, hs]
    rfl
  unfold K79_4_c2 K79_4
  rw [zf4]
  simp only [k79_4, hF]
theorem zgW_K (b X : Int32) (u : Option zV) (T : zS) : K251_11_c2 b X X u 0 T = zgW b (T 107) (T 108) X := by
  unfold K251_11_c2 K251_11
  rw [zf4]
  rfl
theorem zgR_end (x1 : Int32) (S : zS) : ∀ n : Nat, zn 15 (zwl (fun a => c251_4 x1 S a = true) (kw251_4 x1 S) n (0, (-1), none, none)).1 ∧ (c251_4 x1 S (zwl (fun a => c251_4 x1 S a = true) (kw251_4 x1 S) n (0, (-1), none, none)) = true ∨ (n : Int) ≤ (zwl (fun a => c251_4 x1 S a = true) (kw251_4 x1 S) n (0, (-1), none, none)).1.toInt + 1) := by
  intro n
  induction n with
  | zero => exact ⟨(by unfold zwl zn; decide), Or.inr (by unfold zwl; decide)⟩
  | succ n ih =>
    unfold zwl
    generalize zwl (fun a => c251_4 x1 S a = true) (kw251_4 x1 S) n (0, (-1), none, none) = w at ih ⊢
    obtain ⟨h1, h2⟩ := ih
    by_cases hc : c251_4 x1 S w = true
    · rw [if_pos hc]; exact ⟨h1, Or.inl hc⟩
    · rw [if_neg hc]
      have h3 := h2.resolve_left hc
      obtain ⟨h4, h5⟩ := K251_11_zn x1 w.1 w.1 w.2.2.2 S h1
      refine ⟨h4, ?_⟩
      by_cases he : w.1 = K251_11_c2 x1 w.1 w.1 w.2.2.2 0 S
      · exact Or.inl (decide_eq_true he)
      · refine Or.inr ?_
        have h6 : w.1.toInt ≠ (K251_11_c2 x1 w.1 w.1 w.2.2.2 0 S).toInt := fun h9 => he (zk_eq.mpr h9)
        show ((n + 1 : Nat) : Int) ≤ (K251_11_c2 x1 w.1 w.1 w.2.2.2 0 S).toInt + 1
        omega
theorem zgR_fix (b : Int32) (T : zS) : zgW b (T 107) (T 108) (K251_4_c2 b 0 (-1) (none : Option zV) (none : Option zV) T) = K251_4_c2 b 0 (-1) (none : Option zV) (none : Option zV) T ∧ ∀ P, zgC b (T 107) (T 108) P → zsu (K251_4_c2 b 0 (-1) (none : Option zV) (none : Option zV) T) P := by
  have hfu : (17 + (b - b).toNatClampNeg) = 17 := by rw [Int32.sub_self]; rfl
  unfold K251_4_c2 K251_4
  rw [hfu]
  have hI : ((zwl (fun a => c251_4 b T a = true) (kw251_4 b T) 17 (0, (-1), none, none)).2.1 = -1 ∧ (zwl (fun a => c251_4 b T a = true) (kw251_4 b T) 17 (0, (-1), none, none)).1 = 0 ∨ (zwl (fun a => c251_4 b T a = true) (kw251_4 b T) 17 (0, (-1), none, none)).1 = zgW b (T 107) (T 108) (zwl (fun a => c251_4 b T a = true) (kw251_4 b T) 17 (0, (-1), none, none)).2.1) ∧ ∀ P, zgC b (T 107) (T 108) P → zsu (zwl (fun a => c251_4 b T a = true) (kw251_4 b T) 17 (0, (-1), none, none)).1 P := by
    refine zwl_inv (I := fun (a : Int32 × Int32 × Option zV × Option zV) => (a.2.1 = -1 ∧ a.1 = 0 ∨ a.1 = zgW b (T 107) (T 108) a.2.1) ∧ ∀ P, zgC b (T 107) (T 108) P → zsu a.1 P) ⟨Or.inl ⟨rfl, rfl⟩, fun P _ => zsu_0 P⟩ (fun a _ ha => ⟨Or.inr (zgW_K b a.1 _ T), fun P hP => ?_⟩)
    show zsu (K251_11_c2 b a.1 a.1 a.2.2.2 0 T) P
    rw [zgW_K]
    exact zgW_sub hP (ha.2 P hP)
  have hE := zgR_end b T 17
  generalize zwl (fun a => c251_4 b T a = true) (kw251_4 b T) 17 (0, (-1), none, none) = w at hI hE ⊢
  obtain ⟨h1, h2⟩ := hI
  refine ⟨?_, h2⟩
  have hc : c251_4 b T w = true := by
    rcases hE.2 with h | h
    · exact h
    · have := hE.1; unfold zn at this; omega
  have he : w.2.1 = w.1 := of_decide_eq_true hc
  rcases h1 with ⟨h3, h4⟩ | h3
  · rw [he, h4] at h3; exact absurd h3 (by decide)
  · rw [he] at h3; exact h3.symm
theorem zgroups {S T : zS} (e1 : S 28 = T 107) (e2 : S 29 = T 108) (b : Int32) : K79_4_c2 b 0 (none : Option zV) 0 S = K251_4_c2 b 0 (-1) (none : Option zV) (none : Option zV) T := by
  obtain ⟨h1, h2⟩ := zgR_fix b T
  rw [zgK, e1, e2]
  have hR := zgW_cl h1
  exact zsu_anti (zgF_sub hR (zgF_sub hR (zgF_sub hR (zgF_sub hR (zsu_0 _))))) (h2 _ zgF4)
/-- all policies that count -/
theorem zpolicies {S T : zS} (hp : zPpl S T) (h32 : S 32 = T 111) (h33 : S 33 = T 112) (a : Int32) (hb : -1 ≤ (T 111 a.toNatClampNeg).toInt ∧ (T 111 a.toNatClampNeg).toInt ≤ 7) : F252 a T = (S 33 a.toNatClampNeg) ||| (if (S 32 a.toNatClampNeg) < 0 then (0 : Int32) else (if (S 32 a.toNatClampNeg) < 8 then ((K78_18_c2 (S 32 a.toNatClampNeg) (S 26 (S 32 a.toNatClampNeg).toNatClampNeg) (K79_4_c2 (S 32 a.toNatClampNeg) 0 (none : Option zV) 0 S) 0 S) : Int32) else 0)) := by
  unfold zPpl at hp
  obtain ⟨p0, p1, p2, p3, p4, p5, p6⟩ := hp
  rw [zgroups p4 p5, h32, h33, p2]
  unfold F252
  generalize T 111 a.toNatClampNeg = b at hb ⊢
  by_cases hm : b = -1
  · subst hm
    rw [if_pos rfl, if_pos (by decide), Int32.or_zero]
  · have hz : ¬ b < 0 := by
      rw [zk_lt, zlt_0]
      have : b.toInt ≠ -1 := fun h => hm (zk_eq.mpr h)
      omega
    have h8 : b < 8 := by rw [zk_lt, zlt_8]; omega
    rw [if_neg hm, if_neg hz, if_pos h8]
    unfold K252_26_c2 K252_26 K78_18_c2 K78_18
    rw [zf4, zf4]
    simp only [k252_26, k78_18, zite_or, p3]
    simp only [Int32.or_assoc]
/-! which rules count: the loop over all rules -/
def zdg (p : Int32) : Int32 := if p = 8 then 3 else if p = 6 then 2 else if p = 7 then 1 else 0
def zvg (d0 d1 d2 : Int32) : Int32 := (((((0 * 4) + d0) * 4) + (if d0 = 3 then 3 else d1)) * 4) + (if d0 = 3 then 3 else if d1 = 3 then 3 else d2)
def zcm (a0 a1 a2 b0 b1 b2 : Int32) : Int32 := if (a0 - b0) = 0 then (if a0 = 0 then 0 else (if (a1 - b1) = 0 then (if a1 = 0 then 0 else (if (a2 - b2) = 0 then 0 else (if (a2 - b2) ≤ 0 then -1 else 1))) else (if (a1 - b1) ≤ 0 then -1 else 1))) else (if (a0 - b0) ≤ 0 then -1 else 1)
theorem zcm_dec : ∀ d0, d0 < 4 → ∀ d1, d1 < 4 → ∀ d2, d2 < 4 → ∀ c0, c0 < 4 → ∀ c1, c1 < 4 → ∀ c2, c2 < 4 → zcm (3 - Int32.ofNat d0) (3 - Int32.ofNat d1) (3 - Int32.ofNat d2) (3 - Int32.ofNat c0) (3 - Int32.ofNat c1) (3 - Int32.ofNat c2) = (if zvg (Int32.ofNat d0) (Int32.ofNat d1) (Int32.ofNat d2) < zvg (Int32.ofNat c0) (Int32.ofNat c1) (Int32.ofNat c2) then (1 : Int32) else if zvg (Int32.ofNat d0) (Int32.ofNat d1) (Int32.ofNat d2) = zvg (Int32.ofNat c0) (Int32.ofNat c1) (Int32.ofNat c2) then 0 else -1) := by decide +kernel
theorem zvg_63 : ∀ d0, d0 < 4 → ∀ d1, d1 < 4 → ∀ d2, d2 < 4 → 0 ≤ (zvg (Int32.ofNat d0) (Int32.ofNat d1) (Int32.ofNat d2)).toInt ∧ (zvg (Int32.ofNat d0) (Int32.ofNat d1) (Int32.ofNat d2)).toInt ≤ 63 := by decide +kernel
theorem zdg_k (p : Int32) : ∃ k, k < 4 ∧ zdg p = Int32.ofNat k := by
  unfold zdg
  split
  · exact ⟨3, by decide, rfl⟩
  split
  · exact ⟨2, by decide, rfl⟩
  split
  · exact ⟨1, by decide, rfl⟩
  · exact ⟨0, by decide, rfl⟩
theorem zvg_n (p0 p1 p2 : Int32) : zn 63 (zvg (zdg p0) (zdg p1) (zdg p2)) := by
  obtain ⟨k0, l0, e0⟩ := zdg_k p0
  obtain ⟨k1, l1, e1⟩ := zdg_k p1
  obtain ⟨k2, l2, e2⟩ := zdg_k p2
  rw [e0, e1, e2]
  exact zvg_63 k0 l0 k1 l1 k2 l2
theorem zdg_3 (p : Int32) : (zdg p = 3) = (p = 8) := by
  unfold zdg
  by_cases h8 : p = 8
  · simp [h8]
  · by_cases h6 : p = 6
    · simp [h6]
    · by_cases h7 : p = 7
      · simp [h7]
      · simp [h8, h6, h7]
theorem zdg_8 : zdg 8 = 3 := by decide
theorem z254 {p : Int32} (h : zn 8 p) : (if ((6 : Int32) ≤ p) then ((if (p = 7) then (2 : Int32) else (zb (p = 6))) : Int32) else 3) = 3 - zdg p := by
  have key : ∀ n, n < 9 → (if ((6 : Int32) ≤ Int32.ofNat n) then ((if (Int32.ofNat n = 7) then (2 : Int32) else (zb (Int32.ofNat n = 6))) : Int32) else 3) = 3 - zdg (Int32.ofNat n) := by decide
  have k := key p.toNatClampNeg (by have := zn_cl h; omega)
  rwa [zk_of h.1] at k
def zft (p b s : Int32) : Prop := (p = 8) ∨ ((p = 6) ∨ (if (p = 7) then ((¬ (b = (-1))) ∧ ((zrem b 6) = s)) else (p = s)))
theorem z67 (p b s : Int32) (S : zS) : (F67 p b s S = 4 ↔ ¬ zft p b s) ∧ (¬ F67 p b s S = 4 → F67 p b s S = zdg p) := by
  unfold F67 zft zdg
  by_cases h8 : p = 8
  · simp [h8]
  · by_cases h6 : p = 6
    · simp [h6]
    · by_cases h7 : p = 7
      · by_cases hb : b = -1
        · simp [h7, hb]
        · by_cases hs : zrem b 6 = s
          · simp [h7, hb, hs]
          · simp [h7, hb, hs]
      · by_cases hs : p = s
        · subst hs; simp [h8, h6, h7]
        · simp [h8, h6, h7, hs]
def z66v (p0 p1 p2 b c : Int32) (S : zS) : Int32 := (if ((F67 p0 b (c / 36) S) = 4) then (64 : Int32) else (if ((F67 (if (p0 = 8) then (8 : Int32) else p1) b (zrem (c / 6) 6) S) = 4) then (64 : Int32) else (if ((F67 (if ((if (p0 = 8) then (8 : Int32) else p1) = 8) then (8 : Int32) else p2) b (zrem c 6) S) = 4) then (64 : Int32) else ((((((0 * 4) + (F67 p0 b (c / 36) S)) * 4) + (F67 (if (p0 = 8) then (8 : Int32) else p1) b (zrem (c / 6) 6) S)) * 4) + (F67 (if ((if (p0 = 8) then (8 : Int32) else p1) = 8) then (8 : Int32) else p2) b (zrem c 6) S)))))
theorem z66v_c {p0 p1 p2 b c : Int32} {S : zS} (c0 : ¬ (F67 p0 b (c / 36) S) = 4) (c1 : ¬ (F67 (if (p0 = 8) then (8 : Int32) else p1) b (zrem (c / 6) 6) S) = 4) (c2 : ¬ (F67 (if ((if (p0 = 8) then (8 : Int32) else p1) = 8) then (8 : Int32) else p2) b (zrem c 6) S) = 4) : z66v p0 p1 p2 b c S = zvg (zdg p0) (zdg p1) (zdg p2) := by
  unfold z66v
  rw [if_neg c0, if_neg c1, if_neg c2, (z67 _ _ _ _).2 c0, (z67 _ _ _ _).2 c1, (z67 _ _ _ _).2 c2]
  unfold zvg
  simp only [zdg_3]
  by_cases h0 : p0 = 8
  · simp only [h0, if_true, zdg_8]
  · by_cases h1 : p1 = 8
    · simp only [h0, h1, if_true, if_false, zdg_8]
    · simp only [h0, h1, if_false]
theorem z66v_cs {p0 p1 p2 b c : Int32} {S : zS} (h : ¬ z66v p0 p1 p2 b c S = 64) : (¬ (F67 p0 b (c / 36) S) = 4) ∧ (¬ (F67 (if (p0 = 8) then (8 : Int32) else p1) b (zrem (c / 6) 6) S) = 4) ∧ (¬ (F67 (if ((if (p0 = 8) then (8 : Int32) else p1) = 8) then (8 : Int32) else p2) b (zrem c 6) S) = 4) := by
  unfold z66v at h
  by_cases c0 : (F67 p0 b (c / 36) S) = 4
  · rw [if_pos c0] at h; exact absurd rfl h
  rw [if_neg c0] at h
  by_cases c1 : (F67 (if (p0 = 8) then (8 : Int32) else p1) b (zrem (c / 6) 6) S) = 4
  · rw [if_pos c1] at h; exact absurd rfl h
  rw [if_neg c1] at h
  by_cases c2 : (F67 (if ((if (p0 = 8) then (8 : Int32) else p1) = 8) then (8 : Int32) else p2) b (zrem c 6) S) = 4
  · rw [if_pos c2] at h; exact absurd rfl h
  exact ⟨c0, c1, c2⟩
theorem z66v_v {p0 p1 p2 b c : Int32} {S : zS} (h : ¬ z66v p0 p1 p2 b c S = 64) : z66v p0 p1 p2 b c S = zvg (zdg p0) (zdg p1) (zdg p2) := by
  obtain ⟨c0, c1, c2⟩ := z66v_cs h
  exact z66v_c c0 c1 c2
theorem z66v_64 {p0 p1 p2 b c : Int32} {S : zS} : (¬ z66v p0 p1 p2 b c S = 64) ↔ (zft p0 b (c / 36) ∧ zft (if (p0 = 8) then (8 : Int32) else p1) b (zrem (c / 6) 6) ∧ zft (if ((if (p0 = 8) then (8 : Int32) else p1) = 8) then (8 : Int32) else p2) b (zrem c 6)) := by
  constructor
  · intro h
    obtain ⟨c0, c1, c2⟩ := z66v_cs h
    exact ⟨Classical.byContradiction (fun hn => c0 ((z67 _ _ _ _).1.mpr hn)), Classical.byContradiction (fun hn => c1 ((z67 _ _ _ _).1.mpr hn)), Classical.byContradiction (fun hn => c2 ((z67 _ _ _ _).1.mpr hn))⟩
  · rintro ⟨f0, f1, f2⟩ h
    rw [z66v_c (fun e => (z67 _ _ _ _).1.mp e f0) (fun e => (z67 _ _ _ _).1.mp e f1) (fun e => (z67 _ _ _ _).1.mp e f2)] at h
    have hn := zvg_n p0 p1 p2
    rw [h] at hn
    unfold zn at hn
    exact absurd hn.2 (by decide)
theorem zix5 (j k : Nat) (hj : j < 40) (hk : k < 5) : ((5 * Int32.ofNat j) + Int32.ofNat k).toNatClampNeg = 5 * j + k := by
  rw [show (5 : Int32) = Int32.ofNat 5 from rfl, ← Int32.ofNat_mul, ← Int32.ofNat_add]
  exact zk_ix _ (by omega)
theorem zix3 (j k : Nat) (hj : j < 40) (hk : k < 3) : ((Int32.ofNat j * 3) + Int32.ofNat k).toNatClampNeg = 3 * j + k := by
  rw [show (3 : Int32) = Int32.ofNat 3 from rfl, ← Int32.ofNat_mul, ← Int32.ofNat_add, zk_ix _ (by omega)]
  omega
theorem z66 {S T : zS} (hr : zRul S T) (j : Nat) (hj : j < 40) (b c : Int32) : F66 (Int32.ofNat j) b c S = z66v (T 102 (5 * j)) (T 102 (5 * j + 1)) (T 102 (5 * j + 2)) b c S := by
  have hs := hr.2.1 j hj
  have i0 : ((Int32.ofNat j * 3) + 0).toNatClampNeg = 3 * j := zix3 j 0 hj (by decide)
  have i1 : ((Int32.ofNat j * 3) + 1).toNatClampNeg = 3 * j + 1 := zix3 j 1 hj (by decide)
  have i2 : ((Int32.ofNat j * 3) + 2).toNatClampNeg = 3 * j + 2 := zix3 j 2 hj (by decide)
  unfold F66 z66v
  rw [i0, i1, i2, hs.1, hs.2.1, hs.2.2.1]
  rfl
theorem z255 {S T : zS} (hr : zRul S T) (j : Nat) (hj : j < 40) (b c : Int32) : (¬ F255 (Int32.ofNat j) c b T = 0) ↔ ¬ F66 (Int32.ofNat j) b c S = 64 := by
  have i0 : ((5 * Int32.ofNat j) + 0).toNatClampNeg = 5 * j := zix5 j 0 hj (by decide)
  have i1 : ((5 * Int32.ofNat j) + 1).toNatClampNeg = 5 * j + 1 := zix5 j 1 hj (by decide)
  have i2 : ((5 * Int32.ofNat j) + 2).toNatClampNeg = 5 * j + 2 := zix5 j 2 hj (by decide)
  rw [z66 hr j hj]
  refine Iff.trans ?_ z66v_64.symm
  unfold F255
  rw [zb_0, Decidable.not_not, i0, i1, i2]
  generalize T 102 (5 * j) = p0
  generalize T 102 (5 * j + 1) = p1
  generalize T 102 (5 * j + 2) = p2
  have d10 : ((1 : Int32) = 0) = False := eq_false (by decide)
  have d20 : ((2 : Int32) = 0) = False := eq_false (by decide)
  have d21 : ((2 : Int32) = 1) = False := eq_false (by decide)
  simp only [d10, d20, d21, if_true, if_false]
  by_cases h0 : p0 = 8
  · simp [h0, zft]
  · by_cases h1 : p1 = 8
    · simp [h0, h1, zft]
    · simp [h0, h1, zft, and_assoc]
theorem z254f {S T : zS} (hr : zRul S T) (j : Nat) (hj : j < 40) : F254 (Int32.ofNat j) 0 T = 3 - zdg (T 102 (5 * j)) ∧ F254 (Int32.ofNat j) 1 T = 3 - zdg (T 102 (5 * j + 1)) ∧ F254 (Int32.ofNat j) 2 T = 3 - zdg (T 102 (5 * j + 2)) := by
  have hs := hr.2.1 j hj
  have i0 : ((5 * Int32.ofNat j) + 0).toNatClampNeg = 5 * j := zix5 j 0 hj (by decide)
  have i1 : ((5 * Int32.ofNat j) + 1).toNatClampNeg = 5 * j + 1 := zix5 j 1 hj (by decide)
  have i2 : ((5 * Int32.ofNat j) + 2).toNatClampNeg = 5 * j + 2 := zix5 j 2 hj (by decide)
  unfold F254
  rw [i0, i1, i2]
  exact ⟨z254 hs.2.2.2.2.2.1, z254 hs.2.2.2.2.2.2.1, z254 hs.2.2.2.2.2.2.2.1⟩
theorem z256 {S T : zS} (hr : zRul S T) (j i : Nat) (hj : j < 40) (hi : i < 40) (b c : Int32) (h1 : ¬ F66 (Int32.ofNat j) b c S = 64) (h2 : ¬ F66 (Int32.ofNat i) b c S = 64) : F256 (Int32.ofNat j) (Int32.ofNat i) T = (if F66 (Int32.ofNat j) b c S < F66 (Int32.ofNat i) b c S then (1 : Int32) else if F66 (Int32.ofNat j) b c S = F66 (Int32.ofNat i) b c S then 0 else -1) := by
  rw [z66 hr j hj] at h1 ⊢
  rw [z66 hr i hi] at h2 ⊢
  rw [z66v_v h1, z66v_v h2]
  have e : F256 (Int32.ofNat j) (Int32.ofNat i) T = zcm (F254 (Int32.ofNat j) 0 T) (F254 (Int32.ofNat j) 1 T) (F254 (Int32.ofNat j) 2 T) (F254 (Int32.ofNat i) 0 T) (F254 (Int32.ofNat i) 1 T) (F254 (Int32.ofNat i) 2 T) := rfl
  obtain ⟨a0, a1, a2⟩ := z254f hr j hj
  obtain ⟨b0, b1, b2⟩ := z254f hr i hi
  rw [e, a0, a1, a2, b0, b1, b2]
  obtain ⟨k0, l0, e0⟩ := zdg_k (T 102 (5 * j))
  obtain ⟨k1, l1, e1⟩ := zdg_k (T 102 (5 * j + 1))
  obtain ⟨k2, l2, e2⟩ := zdg_k (T 102 (5 * j + 2))
  obtain ⟨m0, n0, f0⟩ := zdg_k (T 102 (5 * i))
  obtain ⟨m1, n1, f1⟩ := zdg_k (T 102 (5 * i + 1))
  obtain ⟨m2, n2, f2⟩ := zdg_k (T 102 (5 * i + 2))
  rw [e0, e1, e2, f0, f1, f2]
  exact zcm_dec k0 l0 k1 l1 k2 l2 m0 n0 m1 n1 m2 n2
theorem z66_63 {S T : zS} (hr : zRul S T) (j : Nat) (hj : j < 40) (b c : Int32) (h1 : ¬ F66 (Int32.ofNat j) b c S = 64) : zn 63 (F66 (Int32.ofNat j) b c S) := by
  rw [z66 hr j hj] at h1 ⊢
  rw [z66v_v h1]
  exact zvg_n _ _ _
def zRI (S : zS) (b c : Int32) (a : Int32 × Int32 × Int32 × Int32 × Option zV) (d : Int32 × Int32 × Int32 × Int32 × Option zV × Option zV) : Prop :=
  a.2.1 = d.2.1 ∧ a.2.2.1 = d.2.2.1 ∧ a.2.2.2.1 = d.2.2.2.1 ∧ zo d.2.2.2.1 ∧ (d.2.1 = 0 → d.2.2.2.1 = 0 → d.2.2.1 = 0) ∧ ((d.1 = -1 ∧ a.1 = 63 ∧ d.2.1 = 0 ∧ d.2.2.1 = 0 ∧ d.2.2.2.1 = 0) ∨ ∃ i, i < 40 ∧ d.1 = Int32.ofNat i ∧ ¬ F66 (Int32.ofNat i) b c S = 64 ∧ a.1 = F66 (Int32.ofNat i) b c S)
theorem zor_zb {x : Int32} (h : zo x) (P : Prop) [Decidable P] : x ||| zb P = zb ((¬ x = 0) ∨ P) := by
  unfold zb
  rcases h with h | h <;> subst h <;> by_cases hp : P <;> simp [hp]
theorem zmax_i (x y : Int32) : zmax x y = (if y ≤ x then x else y) := by
  unfold zmax
  by_cases h : x < y
  · rw [if_pos h, if_neg (fun h2 => by rw [zk_lt] at h; rw [zk_le] at h2; omega)]
  · rw [if_neg h, if_pos (by rw [zk_lt] at h; rw [zk_le]; omega)]
theorem zRI_s {S T : zS} (hr : zRul S T) (a1 q b c P : Int32) (hb : b = T 111 q.toNatClampNeg) (j : Nat) (hj : j < 40) (x : Int32 × Int32 × Int32 × Int32 × Option zV) (d : Int32 × Int32 × Int32 × Int32 × Option zV × Option zV) (hI : zRI S b c x d) : zRI S b c (k64_16 a1 b c P S j x) (k257_14 q c P T j d) := by
  obtain ⟨h1, h2, h3, h4, h5, h6⟩ := hI
  have hs := hr.2.1 j hj
  have i3 : ((5 * Int32.ofNat j) + 3).toNatClampNeg = 5 * j + 3 := zix5 j 3 hj (by decide)
  have i4 : ((5 * Int32.ofNat j) + 4).toNatClampNeg = 5 * j + 4 := zix5 j 4 hj (by decide)
  have hx63 : x.1.toInt ≤ 63 := by
    rcases h6 with h6 | ⟨i, hi, _, h8, h9⟩
    · rw [h6.2.1]; decide
    · rw [h9]; exact (z66_63 hr i hi b c h8).2
  have n1 : ¬ (-1 : Int32) = 1 := by decide
  have n2 : (-1 : Int32) < 0 := by decide
  have n3 : ¬ (1 : Int32) < 0 := by decide
  have n4 : ¬ (0 : Int32) < 0 := by decide
  have n5 : ¬ (0 : Int32) = 1 := by decide
  unfold zRI k64_16 k257_14
  dsimp only
  rw [i3, i4, ← hs.2.2.2.1, ← hs.2.2.2.2.1, ← hb]
  by_cases hC : ((((zshr P ((Int32.ofNat j) / 5)) &&& 1) = 1) ∧ (¬ ((S 20 ((Int32.ofNat j) / 5).toNatClampNeg) ≤ (zrem (Int32.ofNat j) 5)))) ∧ ¬ F66 (Int32.ofNat j) b c S = 64
  · have hV : (if ((((zshr P ((Int32.ofNat j) / 5)) &&& 1) = 1) ∧ (¬ ((S 20 ((Int32.ofNat j) / 5).toNatClampNeg) ≤ (zrem (Int32.ofNat j) 5)))) then ((F66 (Int32.ofNat j) b c S) : Int32) else 64) = F66 (Int32.ofNat j) b c S := if_pos hC.1
    have hB : (if ((((zshr P ((Int32.ofNat j) / 5)) &&& 1) = 1) ∧ ((¬ ((T 101 ((Int32.ofNat j) / 5).toNatClampNeg) ≤ (zrem (Int32.ofNat j) 5))) ∧ (¬ ((F255 (Int32.ofNat j) c b T) = 0)))) then ((if (d.1 = (-1)) then (1 : Int32) else (F256 (Int32.ofNat j) d.1 T)) : Int32) else (-1)) = (if (d.1 = (-1)) then (1 : Int32) else (F256 (Int32.ofNat j) d.1 T)) := by
      rw [← hr.1]
      exact if_pos ⟨hC.1.1, hC.1.2, (z255 hr j hj b c).mpr hC.2⟩
    rw [hV, hB]
    have hv := z66_63 hr j hj b c hC.2
    have hz3 : ∀ y : Int32, (zmax y (S 23 j)) = (if (S 23 j) ≤ y then y else S 23 j) := fun y => zmax_i y _
    rcases h6 with ⟨g1, g2, g3, g4, g5⟩ | ⟨i, hi, g1, g2, g3⟩
    · have hle : (if (x.1 ≤ F66 (Int32.ofNat j) b c S) then (x.1 : Int32) else F66 (Int32.ofNat j) b c S) = F66 (Int32.ofNat j) b c S := by
        by_cases h : x.1 ≤ F66 (Int32.ofNat j) b c S
        · rw [if_pos h]
          rw [g2, zk_le, show (63 : Int32).toInt = 63 from rfl] at h
          rw [g2, zk_eq, show (63 : Int32).toInt = 63 from rfl]
          have := hv.2
          omega
        · rw [if_neg h]
      rw [h1, h2, h3, g3, g4, g5, hle, g1]
      simp only [n3, ite_self, if_true, if_false, hz3]
      refine ⟨by trivial, by trivial, ?_, ?_, ?_, Or.inr ⟨j, hj, rfl, hC.2, rfl⟩⟩
      · by_cases hs0 : S 22 j = 0 <;> simp [zb, hs0]
      · exact zb_01 _
      · intro e1 e2
        exfalso
        have e3 : ((0 : Int32) ||| S 22 j) = 0 := e1
        rw [Int32.or_eq_zero_iff] at e3
        rw [e3.2] at e2
        exact absurd e2 (by decide)
    · have hne : ¬ d.1 = -1 := by
        rw [g1]; intro h
        have := zk_ti i (by omega)
        rw [h] at this
        rw [zlt_m1] at this
        omega
      rw [if_neg hne, g1, z256 hr j i hj hi b c hC.2 g2, ← g3]
      by_cases hlt : F66 (Int32.ofNat j) b c S < x.1
      · have hnl : ¬ x.1 ≤ F66 (Int32.ofNat j) b c S := by rw [zk_le]; rw [zk_lt] at hlt; omega
        simp only [hlt, hnl, n3, if_true, if_false, hz3]
        refine ⟨by trivial, by trivial, ?_, ?_, ?_, Or.inr ⟨j, hj, rfl, hC.2, rfl⟩⟩
        · by_cases hs0 : S 22 j = 0 <;> simp [zb, hs0]
        · exact zb_01 _
        · intro e1 e2
          exfalso
          have e3 : ((0 : Int32) ||| S 22 j) = 0 := e1
          rw [Int32.or_eq_zero_iff] at e3
          rw [e3.2] at e2
          exact absurd e2 (by decide)
      · have hle : x.1 ≤ F66 (Int32.ofNat j) b c S := by rw [zk_le]; rw [zk_lt] at hlt; omega
        by_cases heq : F66 (Int32.ofNat j) b c S = x.1
        · have hle2 : x.1 ≤ x.1 := Int32.le_refl _
          have hlt2 : ¬ x.1 < x.1 := by rw [zk_lt]; omega
          rw [heq]
          simp only [hle2, hlt2, n4, n5, if_true, if_false, hz3, h1, h2, h3]
          refine ⟨by trivial, by trivial, ?_, ?_, ?_, Or.inr ⟨i, hi, rfl, g2, g3⟩⟩
          · rcases h4 with e | e <;> rw [e] <;> by_cases hs0 : S 22 j = 0 <;> simp [zb, hs0]
          · exact zb_01 _
          · intro e1 e2
            exfalso
            have e3 : (d.2.1 ||| S 22 j) = 0 := e1
            rw [Int32.or_eq_zero_iff] at e3
            rw [e3.2] at e2
            have e4 : zb ((¬ d.2.2.2.1 = 0) ∨ (0 : Int32) = 0) = 0 := e2
            rw [zb_0] at e4
            exact e4 (Or.inr rfl)
        · simp only [hle, hlt, heq, n1, n2, if_true, if_false]
          exact ⟨h1, h2, h3, h4, h5, Or.inr ⟨i, hi, rfl, g2, g3⟩⟩
  · have hV : (if ((((zshr P ((Int32.ofNat j) / 5)) &&& 1) = 1) ∧ (¬ ((S 20 ((Int32.ofNat j) / 5).toNatClampNeg) ≤ (zrem (Int32.ofNat j) 5)))) then ((F66 (Int32.ofNat j) b c S) : Int32) else 64) = 64 := by
      by_cases h : ((((zshr P ((Int32.ofNat j) / 5)) &&& 1) = 1) ∧ (¬ ((S 20 ((Int32.ofNat j) / 5).toNatClampNeg) ≤ (zrem (Int32.ofNat j) 5))))
      · rw [if_pos h]; exact Classical.byContradiction (fun h9 => hC ⟨h, h9⟩)
      · rw [if_neg h]
    have hB : (if ((((zshr P ((Int32.ofNat j) / 5)) &&& 1) = 1) ∧ ((¬ ((T 101 ((Int32.ofNat j) / 5).toNatClampNeg) ≤ (zrem (Int32.ofNat j) 5))) ∧ (¬ ((F255 (Int32.ofNat j) c b T) = 0)))) then ((if (d.1 = (-1)) then (1 : Int32) else (F256 (Int32.ofNat j) d.1 T)) : Int32) else (-1)) = -1 := by
      rw [← hr.1]
      exact if_neg (fun h => hC ⟨⟨h.1, h.2.1⟩, (z255 hr j hj b c).mp h.2.2⟩)
    rw [hV, hB]
    have hle : x.1 ≤ 64 := by rw [zk_le]; have : (64 : Int32).toInt = 64 := rfl; omega
    have hne : ¬ (64 : Int32) = x.1 := by intro h; rw [← h] at hx63; exact absurd hx63 (by decide)
    have n1 : ¬ (-1 : Int32) = 1 := by decide
    have n2 : (-1 : Int32) < 0 := by decide
    simp only [hle, hne, n1, n2, if_true, if_false]
    exact ⟨h1, h2, h3, h4, h5, h6⟩
theorem zrights {S T : zS} (hr : zRul S T) (hp : zPpl S T) (h32 : S 32 = T 111) (h33 : S 33 = T 112) (a c : Int32) (hb : -1 ≤ (T 111 a.toNatClampNeg).toInt ∧ (T 111 a.toNatClampNeg).toInt ≤ 7) : F257 a c T = F64 (S 33 a.toNatClampNeg) (S 32 a.toNatClampNeg) c S := by
  have hP := zpolicies hp h32 h33 a hb
  unfold F257 F64
  generalize F252 a T = P at hP ⊢
  rw [← hP]
  have hI : zRI S (S 32 a.toNatClampNeg) c (zfold (k64_16 (S 33 a.toNatClampNeg) (S 32 a.toNatClampNeg) c P S) 0 (40 - 0) (63, 0, 0, 0, (none : Option zV))) (zfold (k257_14 a c P T) 0 (40 - 0) ((-1), 0, 0, 0, (none : Option zV), (none : Option zV))) := by
    refine zfold_rel ⟨rfl, rfl, rfl, Or.inl rfl, fun _ _ => rfl, Or.inl ⟨rfl, rfl, rfl, rfl, rfl⟩⟩ (fun j x d hj h => ?_)
    rw [Nat.zero_add]
    exact zRI_s hr _ a _ c P (by rw [h32]) j hj x d h
  unfold K257_14_c7 K257_14_c5 K257_14_c6 K64_16_c8 K64_16_c6 K64_16_c7 K257_14 K64_16
  generalize zfold (k64_16 (S 33 a.toNatClampNeg) (S 32 a.toNatClampNeg) c P S) 0 (40 - 0) (63, 0, 0, 0, (none : Option zV)) = w at hI ⊢
  generalize zfold (k257_14 a c P T) 0 (40 - 0) ((-1), 0, 0, 0, (none : Option zV), (none : Option zV)) = v at hI ⊢
  obtain ⟨h1, h2, h3, h4, h5, h6⟩ := hI
  rw [h1, h2, h3]
  by_cases hd : v.2.2.2.1 = 0
  · rw [if_pos hd, if_pos hd]
    by_cases hz : v.2.1 = 0
    · rw [if_pos hz, hz, h5 hz hd]; rfl
    · rw [if_neg hz]
  · rw [if_neg hd, if_neg hd]
/-! what a request does ahead of its own part, and behind it (wip/whole/gen/gen82.py) -/
def zQ (n : Nat) (S T : zS) : Prop := zSeal S T ∧ zKey n S T ∧ zEng S T ∧ zRul S T ∧ zPpl S T ∧ zTok S T ∧ zLea S T ∧ zLT S T ∧ zSto n S T ∧ zFar n S T ∧ zLog n S T ∧ zWra S T ∧ zCas S T ∧ zCer S T ∧ zSin S T
theorem zQ_Seal {n : Nat} {S T : zS} (h : zQ n S T) : zSeal S T := by unfold zQ at h; exact h.1
theorem zQ_Key {n : Nat} {S T : zS} (h : zQ n S T) : zKey n S T := by unfold zQ at h; exact h.2.1
theorem zQ_Eng {n : Nat} {S T : zS} (h : zQ n S T) : zEng S T := by unfold zQ at h; exact h.2.2.1
theorem zQ_Rul {n : Nat} {S T : zS} (h : zQ n S T) : zRul S T := by unfold zQ at h; exact h.2.2.2.1
theorem zQ_Ppl {n : Nat} {S T : zS} (h : zQ n S T) : zPpl S T := by unfold zQ at h; exact h.2.2.2.2.1
theorem zQ_Tok {n : Nat} {S T : zS} (h : zQ n S T) : zTok S T := by unfold zQ at h; exact h.2.2.2.2.2.1
theorem zQ_Lea {n : Nat} {S T : zS} (h : zQ n S T) : zLea S T := by unfold zQ at h; exact h.2.2.2.2.2.2.1
theorem zQ_LT {n : Nat} {S T : zS} (h : zQ n S T) : zLT S T := by unfold zQ at h; exact h.2.2.2.2.2.2.2.1
theorem zQ_Sto {n : Nat} {S T : zS} (h : zQ n S T) : zSto n S T := by unfold zQ at h; exact h.2.2.2.2.2.2.2.2.1
theorem zQ_Far {n : Nat} {S T : zS} (h : zQ n S T) : zFar n S T := by unfold zQ at h; exact h.2.2.2.2.2.2.2.2.2.1
theorem zQ_Log {n : Nat} {S T : zS} (h : zQ n S T) : zLog n S T := by unfold zQ at h; exact h.2.2.2.2.2.2.2.2.2.2.1
theorem zQ_Wra {n : Nat} {S T : zS} (h : zQ n S T) : zWra S T := by unfold zQ at h; exact h.2.2.2.2.2.2.2.2.2.2.2.1
theorem zQ_Cas {n : Nat} {S T : zS} (h : zQ n S T) : zCas S T := by unfold zQ at h; exact h.2.2.2.2.2.2.2.2.2.2.2.2.1
theorem zQ_Cer {n : Nat} {S T : zS} (h : zQ n S T) : zCer S T := by unfold zQ at h; exact h.2.2.2.2.2.2.2.2.2.2.2.2.2.1
theorem zQ_Sin {n : Nat} {S T : zS} (h : zQ n S T) : zSin S T := by unfold zQ at h; exact h.2.2.2.2.2.2.2.2.2.2.2.2.2.2
theorem zR_Q {n : Nat} {S T : zS} (h : zR n S T) : zQ n S T := ⟨zR_Seal h, zR_Key h, zR_Eng h, zR_Rul h, zR_Ppl h, zR_Tok h, zR_Lea h, zR_LT h, zR_Sto h, zR_Far h, zR_Log h, zR_Wra h, zR_Cas h, zR_Cer h, zR_Sin h⟩
theorem zQ_R {n : Nat} {S T : zS} (h : zQ n S T) (hu : zUse S T) : zR n S T := ⟨zQ_Seal h, zQ_Key h, zQ_Eng h, zQ_Rul h, zQ_Ppl h, zQ_Tok h, zQ_Lea h, zQ_LT h, hu, zQ_Sto h, zQ_Far h, zQ_Log h, zQ_Wra h, zQ_Cas h, zQ_Cer h, zQ_Sin h⟩
theorem zQ_thr {n : Nat} {S T : zS} (h : zQ n S T) (v : Int32) : zQ n S (z_up T 13 0 v) := ⟨(zSeal_km rfl (zkp_upf (l := [13]) (fl := [13000]) zkp_S rfl rfl) (zQ_Seal h)), (zKey_km rfl (zkp_upf (l := [13]) (fl := [13000]) zkp_S rfl rfl) (zQ_Key h)), (zEng_km rfl (zkp_upf (l := [13]) (fl := [13000]) zkp_S rfl rfl) (zQ_Eng h)), (zRul_km rfl (zkp_upf (l := [13]) (fl := [13000]) zkp_S rfl rfl) (zQ_Rul h)), (zPpl_km rfl (zkp_upf (l := [13]) (fl := [13000]) zkp_S rfl rfl) (zQ_Ppl h)), (zTok_km rfl (zkp_upf (l := [13]) (fl := [13000]) zkp_S rfl rfl) (zQ_Tok h)), (zLea_km rfl (zkp_upf (l := [13]) (fl := [13000]) zkp_S rfl rfl) (zQ_Lea h)), (zLT_km rfl (zkp_upf (l := [13]) (fl := [13000]) zkp_S rfl rfl) (zQ_LT h)), (zSto_km rfl (zkp_upf (l := [13]) (fl := [13000]) zkp_S rfl rfl) (zQ_Sto h)), (zFar_km rfl (zkp_upf (l := [13]) (fl := [13000]) zkp_S rfl rfl) (zQ_Far h)), (zLog_km rfl (zkp_upf (l := [13]) (fl := [13000]) zkp_S rfl rfl) (zQ_Log h)), (zWra_km rfl (zkp_upf (l := [13]) (fl := [13000]) zkp_S rfl rfl) (zQ_Wra h)), (zCas_km rfl (zkp_upf (l := [13]) (fl := [13000]) zkp_S rfl rfl) (zQ_Cas h)), (zCer_km rfl (zkp_upf (l := [13]) (fl := [13000]) zkp_S rfl rfl) (zQ_Cer h)), (zSin_km rfl (zkp_upf (l := [13]) (fl := [13000]) zkp_S rfl rfl) (zQ_Sin h))⟩
theorem zQ_out {n : Nat} {S T : zS} (h : zQ n S T) (v : Int32) : zQ n (z_up S 148 0 v) T := ⟨(zSeal_kc rfl (zkp_up (l := [148]) (fl := []) zkp_S rfl rfl) (zQ_Seal h)), (zKey_kc rfl (zkp_up (l := [148]) (fl := []) zkp_S rfl rfl) (zQ_Key h)), (zEng_kc rfl (zkp_up (l := [148]) (fl := []) zkp_S rfl rfl) (zQ_Eng h)), (zRul_kc rfl (zkp_up (l := [148]) (fl := []) zkp_S rfl rfl) (zQ_Rul h)), (zPpl_kc rfl (zkp_up (l := [148]) (fl := []) zkp_S rfl rfl) (zQ_Ppl h)), (zTok_kc rfl (zkp_up (l := [148]) (fl := []) zkp_S rfl rfl) (zQ_Tok h)), (zLea_kc rfl (zkp_up (l := [148]) (fl := []) zkp_S rfl rfl) (zQ_Lea h)), (zLT_kc rfl (zkp_up (l := [148]) (fl := []) zkp_S rfl rfl) (zQ_LT h)), (zSto_kc rfl (zkp_up (l := [148]) (fl := []) zkp_S rfl rfl) (zQ_Sto h)), (zFar_kc rfl (zkp_up (l := [148]) (fl := []) zkp_S rfl rfl) (zQ_Far h)), (zLog_kc rfl (zkp_up (l := [148]) (fl := []) zkp_S rfl rfl) (zQ_Log h)), (zWra_kc rfl (zkp_up (l := [148]) (fl := []) zkp_S rfl rfl) (zQ_Wra h)), (zCas_kc rfl (zkp_up (l := [148]) (fl := []) zkp_S rfl rfl) (zQ_Cas h)), (zCer_kc rfl (zkp_up (l := [148]) (fl := []) zkp_S rfl rfl) (zQ_Cer h)), (zSin_kc rfl (zkp_up (l := [148]) (fl := []) zkp_S rfl rfl) (zQ_Sin h))⟩
theorem zQ_up {n : Nat} {S T : zS} (h : zQ n S T) : zQ (n + 1) S T := ⟨(zQ_Seal h), (zKey_up (zQ_Key h)), (zQ_Eng h), (zQ_Rul h), (zQ_Ppl h), (zQ_Tok h), (zQ_Lea h), (zQ_LT h), (zSto_up (zQ_Sto h)), (zFar_up (zQ_Far h)), (zLog_up (zQ_Log h)), (zQ_Wra h), (zQ_Cas h), (zQ_Cer h), (zQ_Sin h)⟩
theorem zU_thr {S T : zS} (h : zUse S T) (v : Int32) : zUse S (z_up T 13 0 v) := zUse_km rfl (zkp_upf (l := [13]) (fl := [13000]) zkp_S rfl rfl) h
theorem zU_out {S T : zS} (h : zUse S T) (v : Int32) : zUse (z_up S 148 0 v) T := zUse_kc rfl (zkp_up (l := [148]) (fl := []) zkp_S rfl rfl) h
theorem zfold_sim {α β : Type} {f : Nat → α → α} {g : Nat → β → β} {i : Nat} {I : Nat → α → β → Prop} {a : α} {b : β} : ∀ {n : Nat}, I 0 a b → (∀ j c d, j < n → I j c d → I (j + 1) (f (i + j) c) (g (i + j) d)) → I n (zfold f i n a) (zfold g i n b)
  | 0, h0, _ => h0
  | n + 1, h0, hs => hs n _ _ (Nat.lt_succ_self n) (zfold_sim h0 (fun j c d hj => hs j c d (Nat.lt_succ_of_lt hj)))
theorem zup_id (S : zS) (k i : Nat) (v : Int32) (h : S k i = v) : z_up S k i v = S := by
  funext a b
  rw [zup2]
  split
  · rename_i e; subst e
    split
    · rename_i e2; subst e2; exact h.symm
    · rfl
  · rfl
/-- a lease's end: its row but for the one in hand -/
def zLeX (j : Nat) (S T : zS) : Prop := S 6 0 = T 13 57 ∧ S 41 = T 120 ∧ S 42 = T 121 ∧ S 43 = T 122 ∧ S 44 = T 123 ∧ S 45 = T 124 ∧ S 46 = T 125 ∧ S 47 = T 126 ∧ S 48 = T 127 ∧ S 49 = T 128 ∧ S 50 = T 129 ∧ zn 40 (T 13 57) ∧ zA 40 40 (T 120) ∧ zA 40 216 (T 121) ∧ zA 40 3 (T 122) ∧ (∀ i, ¬ i = j → T 125 i = 0 → T 126 i = 0) ∧ (∀ i, ¬ i = j → T 125 i = 1 → T 126 i = 1 ∨ T 126 i = 2) ∧ (∀ i, i < 3 → zn 2 (T 127 i)) ∧ (∀ i, (T 13 57).toNatClampNeg ≤ i → T 126 i = 0) ∧ (T 126 j = 0 ∨ T 126 j = 1 ∨ T 126 j = 2) ∧ j < (T 13 57).toNatClampNeg
theorem zLeX_t {j : Nat} {S T : zS} (h : zLeX j S T) : zLea (G60 (Int32.ofNat j) S) (G269 (Int32.ofNat j) T) := by
  unfold zLeX at h
  obtain ⟨h0, h1, h2, h3, h4, h5, h6, h7, h8, h9, h10, h11, h12, h13, h14, h15, h16, h17, h18, h19, h20⟩ := h
  have hj : j < 40 := by have := zn_cl h11; omega
  have hix := zk_ix j (by omega)
  have e3 : (if ((3 : Int32) ≤ T 126 j + 1) then (3 : Int32) else 1) = (if (T 126 j + 1 = 3) then (3 : Int32) else 1) := by
    rcases h19 with e | e | e <;> rw [e] <;> decide
  have e4 : ∀ x : Int32, x = (if (T 126 j + 1 = 3) then (3 : Int32) else 1) → x = 0 → False := by
    intro x e1 e2
    rw [e2] at e1
    revert e1
    split <;> decide
  have e5 : (if (T 126 j + 1 = 3) then (3 : Int32) else 1) = 1 → T 126 j + 1 = 1 ∨ T 126 j + 1 = 2 := by
    rcases h19 with e | e | e <;> rw [e] <;> decide
  unfold zLea G60 G269
  rw [hix, h8, h3, h7, h9, e3]
  by_cases hp : T 127 (T 122 j).toNatClampNeg = 1
  · rw [if_pos hp, if_pos hp]
    simp only [zup2, zup1, h0, h1, h2, h3, h4, h5, h6, h7, h8, h9, h10, not_false_eq_true, not_true_eq_false, Nat.reduceEqDiff, reduceIte, true_and, and_true, ite_true, ite_false, upd_r]
    refine ⟨h11, h12, h13, h14, ?_, ?_, h17, ?_⟩
    · intro i
      by_cases hi : i = j
      · rw [if_pos hi, if_pos hi]; intro e; exact (e4 _ rfl e).elim
      · rw [if_neg hi, if_neg hi]; exact h15 i hi
    · intro i
      by_cases hi : i = j
      · rw [if_pos hi, if_pos hi]; exact e5
      · rw [if_neg hi, if_neg hi]; exact h16 i hi
    · intro i hi2
      by_cases hi : i = j
      · omega
      · rw [if_neg hi]; exact h18 i hi2
  · rw [if_neg hp, if_neg hp]
    simp only [zup2, zup1, h0, h1, h2, h3, h4, h5, h6, h7, h8, h9, h10, not_false_eq_true, not_true_eq_false, Nat.reduceEqDiff, reduceIte, true_and, and_true, ite_true, ite_false, upd_r]
    refine ⟨h11, h12, h13, h14, ?_, ?_, h17, ?_⟩
    · intro i
      by_cases hi : i = j
      · rw [if_pos hi, if_pos hi]; intro e; exact absurd e (by decide)
      · rw [if_neg hi, if_neg hi]; exact h15 i hi
    · intro i
      by_cases hi : i = j
      · rw [if_pos hi, if_pos hi]; intro e; exact absurd e (by decide)
      · rw [if_neg hi, if_neg hi]; exact h16 i hi
    · intro i hi2
      by_cases hi : i = j
      · omega
      · rw [if_neg hi]; exact h18 i hi2
theorem zLeX_end {j : Nat} {S T : zS} (h : zLea S T) (hj : j < (T 13 57).toNatClampNeg) (h0 : T 125 j = 0) (v : Int32) : zLeX j (z_up S 44 j v) (z_up (z_up T 123 j v) 126 j 0) := by
  unfold zLea at h
  obtain ⟨k0, k1, k2, k3, k4, k5, k6, k7, k8, k9, k10, k11, k12, k13, k14, k15, k16, k17, k18⟩ := h
  have hu : upd (T 126) j 0 = T 126 := zupd_s _ _ _ (k15 j h0)
  unfold zLeX
  simp only [zup2, zup1, k0, k1, k2, k3, k4, k5, k6, k7, k8, k9, k10, hu, not_false_eq_true, not_true_eq_false, Nat.reduceEqDiff, reduceIte, true_and, and_true, ite_true, ite_false]
  refine ⟨k11, k12, k13, k14, ?_, ?_, k17, ?_, Or.inl trivial, hj⟩
  · intro i hi e
    rw [if_neg hi]; exact k15 i e
  · intro i hi e
    rw [if_neg hi]; exact k16 i e
  · intro i hi
    split
    · rfl
    · exact k18 i hi
theorem zLeX_ag {j : Nat} {S T : zS} (h : zLea S T) (hj : j < (T 13 57).toNatClampNeg) (h0 : T 125 j = 1) : zLeX j S T := by
  unfold zLea at h
  obtain ⟨k0, k1, k2, k3, k4, k5, k6, k7, k8, k9, k10, k11, k12, k13, k14, k15, k16, k17, k18⟩ := h
  exact ⟨k0, k1, k2, k3, k4, k5, k6, k7, k8, k9, k10, k11, k12, k13, k14, fun i _ => k15 i, fun i _ => k16 i, k17, k18, Or.inr (k16 j h0), hj⟩
/-- what a lease's end leaves: the state, never LIVE; all others -/
theorem z269_s (j : Nat) (hj : j < 40) (T : zS) : ¬ (G269 (Int32.ofNat j) T) 125 j = 0 ∧ (∀ i, ¬ i = j → (G269 (Int32.ofNat j) T) 125 i = T 125 i) ∧ (∀ i, ¬ i = j → (G269 (Int32.ofNat j) T) 123 i = T 123 i) := by
  unfold G269
  rw [zk_ix j (by omega)]
  by_cases hp : T 127 (T 122 j).toNatClampNeg = 1
  · rw [if_pos hp]
    simp only [zup2, Nat.reduceEqDiff, reduceIte, ite_true, ite_false]
    refine ⟨?_, fun i hi => by rw [if_neg hi], fun i hi => trivial⟩
    split <;> decide
  · rw [if_neg hp]
    simp only [zup2, Nat.reduceEqDiff, reduceIte, ite_true, ite_false]
    exact ⟨by decide, fun i hi => by rw [if_neg hi], fun i hi => trivial⟩
theorem z60_k (a : Int32) (S : zS) : (∀ c, ¬ c = 46 → ¬ c = 47 → ¬ c = 49 → (G60 a S) c = S c) := by
  intro c h1 h2 h3
  unfold G60
  split <;> simp only [zup1, h1, h2, h3, if_false]
theorem z269_k (a : Int32) (S : zS) : (∀ c, ¬ c = 125 → ¬ c = 126 → ¬ c = 128 → (G269 a S) c = S c) := by
  intro c h1 h2 h3
  unfold G269
  split <;> simp only [zup1, h1, h2, h3, if_false]
/-- the ends of the leases of dead tokens -/
theorem zdl {S T : zS} (h : zLea S T) (h40 : S 40 = T 119) (x1 x2 x3 : Int32) (hx : ¬ x1 ≤ 0) (h1 : T 13 1 = x2) : zLea (K54_6_5_2_S x2 0 S) (K264_58_S x3 x1 0 T) ∧ (∀ i, i < (T 13 57).toNatClampNeg → (K264_58_S x3 x1 0 T) 125 i = 0 → T 119 (T 120 i).toNatClampNeg = 0 ∧ T 125 i = 0) := by
  unfold K54_6_5_2_S K54_6_5_2 K264_58_S K264_58
  rw [if_neg hx, h.1]
  have key := zfold_sim (f := k54_6_5_2 x2) (g := k264_58 x3 x1) (i := 0) (n := (T 13 57).toNatClampNeg - 0) (a := S) (b := T) (I := fun j c d => zLea c d ∧ c 40 = T 119 ∧ d 119 = T 119 ∧ d 13 = T 13 ∧ d 120 = T 120 ∧ (∀ i, j ≤ i → d 125 i = T 125 i) ∧ (∀ i, i < j → d 125 i = 0 → T 119 (T 120 i).toNatClampNeg = 0 ∧ T 125 i = 0)) ⟨h, h40, rfl, rfl, rfl, fun _ _ => rfl, fun i hi => absurd hi (by omega)⟩ (fun j c d hj hI => by
    obtain ⟨hL, e40, e119, e13, e120, eg, el⟩ := hI
    have hj' : j < (d 13 57).toNatClampNeg := by rw [e13]; omega
    have hj4 : j < 40 := by have := zn_cl hL.2.2.2.2.2.2.2.2.2.2.2.1; omega
    have s46 : c 46 = d 125 := hL.2.2.2.2.2.2.1
    have s41 : c 41 = d 120 := hL.2.1
    rw [Nat.zero_add]
    unfold k54_6_5_2 k264_58
    rw [s46, s41, e40, ← e119]
    by_cases c0 : d 125 j = 0
    · rw [if_pos c0, if_pos c0]
      by_cases c1 : d 119 (d 120 j).toNatClampNeg = 0
      · rw [if_pos c1, if_pos c1]
        refine ⟨hL, e40, e119, e13, e120, fun i hi => eg i (by omega), fun i hi e => ?_⟩
        by_cases hij : i = j
        · subst hij
          rw [e119, e120] at c1
          exact ⟨c1, (eg i (Nat.le_refl _)).symm.trans e⟩
        · exact el i (by omega) e
      · rw [if_neg c1, if_neg c1, e13, h1]
        have hz := zLeX_t (zLeX_end hL hj' c0 x2)
        obtain ⟨z1, z2, z3⟩ := z269_s j hj4 (z_up (z_up d 123 j x2) 126 j 0)
        refine ⟨hz, ?_, ?_, ?_, ?_, fun i hi => ?_, fun i hi e => ?_⟩
        · rw [z60_k _ _ 40 (by decide) (by decide) (by decide)]; exact (zupc rfl).trans e40
        · rw [z269_k _ _ 119 (by decide) (by decide) (by decide)]; exact (zupc rfl).trans ((zupc rfl).trans e119)
        · rw [z269_k _ _ 13 (by decide) (by decide) (by decide)]; exact (zupc rfl).trans ((zupc rfl).trans e13)
        · rw [z269_k _ _ 120 (by decide) (by decide) (by decide)]; exact (zupc rfl).trans ((zupc rfl).trans e120)
        · rw [z2 i (by omega)]; exact (zupci rfl).trans ((zupci rfl).trans (eg i (by omega)))
        · by_cases hij : i = j
          · subst hij; exact absurd e z1
          · rw [z2 i hij] at e
            exact el i (by omega) (((zupci rfl).trans (zupci rfl)).symm.trans e)
    · rw [if_neg c0, if_neg c0]
      refine ⟨hL, e40, e119, e13, e120, fun i hi => eg i (by omega), fun i hi e => ?_⟩
      by_cases hij : i = j
      · subst hij; exact absurd e c0
      · exact el i (by omega) e)
  refine ⟨key.1, fun i hi e => key.2.2.2.2.2.2 i (by omega) e⟩
theorem zdl_id {S T : zS} (h : zLea S T) (hT : zTok S T) (hL : zLT S T) (x : Int32) : K54_6_5_2_S x 0 S = S := by
  unfold K54_6_5_2_S K54_6_5_2
  refine zfold_inv (I := fun _ b => b = S) rfl (fun j b hj hb => ?_)
  rw [hb, Nat.zero_add]
  unfold k54_6_5_2
  have s46 : S 46 = T 125 := h.2.2.2.2.2.2.1
  have s41 : S 41 = T 120 := h.2.1
  have s6 : S 6 0 = T 13 57 := h.1
  have s40 : S 40 = T 119 := hT.2.2.2.2.2.2.2.2.2.1
  rw [s6] at hj
  rw [s46, s41, s40]
  by_cases c0 : T 125 j = 0
  · rw [if_pos c0, if_pos (hL j (by omega) c0).1]
  · rw [if_neg c0]
/-- deaths of tokens: the token's own mark is set, then all behind it are looked at -/
theorem zkill {S T : zS} (h : zTok S T) (a : Int32) (ha : 0 ≤ a.toInt) (hlt : a.toInt < (T 13 45).toInt) : zTok (K129_18_S a 1 (a + 1).toNatClampNeg (z_up S 40 a.toNatClampNeg 1)) (K264_18_S a 1 (a + 1).toNatClampNeg (z_up T 119 a.toNatClampNeg 1)) ∧ K129_18_c2 a 1 (a + 1).toNatClampNeg (z_up S 40 a.toNatClampNeg 1) = K264_18_c2 a 1 (a + 1).toNatClampNeg (z_up T 119 a.toNatClampNeg 1) ∧ (∀ i, ¬ T 119 i = 0 → ¬ (K264_18_S a 1 (a + 1).toNatClampNeg (z_up T 119 a.toNatClampNeg 1)) 119 i = 0) ∧ ¬ (K264_18_S a 1 (a + 1).toNatClampNeg (z_up T 119 a.toNatClampNeg 1)) 119 a.toNatClampNeg = 0 ∧ ¬ K264_18_c2 a 1 (a + 1).toNatClampNeg (z_up T 119 a.toNatClampNeg 1) ≤ 0 := by
  have hn0 := h.2.2.2.2.2.2.2.2.2.2.1
  have hcl := zn_cl hn0
  have hna := zk_nat ha
  have hnt := zk_nat hn0.1
  have h1 : zTok (z_up S 40 a.toNatClampNeg 1) (z_up T 119 a.toNatClampNeg 1) := by
    unfold zTok at h ⊢
    obtain ⟨k0, k1, k2, k3, k4, k5, k6, k7, k8, k9, k10, k11, k12, k13, k14, k15, k16, k17, k18, k19⟩ := h
    simp only [zup2, zup1, k0, k1, k2, k3, k4, k5, k6, k7, k8, k9, not_false_eq_true, not_true_eq_false, Nat.reduceEqDiff, reduceIte, true_and, and_true, ite_true, ite_false]
    refine ⟨k10, k11, k12, k13, k14, ?_, k16, ?_, k18, k19⟩
    · intro j hj
      rw [if_neg (by omega)]; exact k15 j hj
    · intro j
      split
      · exact Or.inr rfl
      · exact k17 j
  unfold K129_18_S K129_18_c2 K129_18 K264_18_S K264_18_c2 K264_18
  rw [if_neg (show ¬ (1 : Int32) ≤ 0 by decide), show (z_up S 40 a.toNatClampNeg 1) 5 0 = T 13 45 from (zupci rfl).trans h.1, show (z_up T 119 a.toNatClampNeg 1) 13 45 = T 13 45 from zupci rfl]
  have key := zfold_sim (f := k129_18 a) (g := k264_18 a) (i := (a + 1).toNatClampNeg) (n := (T 13 45).toNatClampNeg - (a + 1).toNatClampNeg) (a := ((1 : Int32), z_up S 40 a.toNatClampNeg 1)) (b := ((1 : Int32), z_up T 119 a.toNatClampNeg 1)) (I := fun j c d => c.1 = d.1 ∧ zTok c.2 d.2 ∧ d.2 13 45 = T 13 45 ∧ (∀ i, ¬ (z_up T 119 a.toNatClampNeg 1) 119 i = 0 → ¬ d.2 119 i = 0) ∧ zn (1 + j) d.1 ∧ 1 ≤ d.1.toInt) ⟨rfl, h1, (show (z_up T 119 a.toNatClampNeg 1) 13 45 = T 13 45 from zupci rfl), fun _ hh => hh, (show zn (1 + 0) (1 : Int32) from by unfold zn; decide), (show 1 ≤ (1 : Int32).toInt from by decide)⟩ (fun j c d hj hI => by
    obtain ⟨e1, hT, e13, em, ez, e0⟩ := hI
    generalize hJ : (a + 1).toNatClampNeg + j = J
    have hJ2 : J < (T 13 45).toNatClampNeg := by omega
    have hJ4 : J < 40 := by omega
    have hT' := hT
    unfold zTok at hT'
    obtain ⟨k0, k1, k2, k3, k4, k5, k6, k7, k8, k9, k10, k11, k12, k13, k14, k15, k16, k17, k18, k19⟩ := hT'
    have hpar := k13 J (by rw [e13]; exact hJ2)
    have hF : F130 (Int32.ofNat J) c.2 = zb ((d.2 118 J = 0) ∧ (((¬ (d.2 110 J) < 0) ∧ (¬ (d.2 13 45) ≤ (d.2 110 J))) ∧ (¬ d.2 119 (d.2 110 J).toNatClampNeg = 0))) := by
      unfold F130
      rw [zk_ix J (by omega), k1, k8, k9, k0]
    have hpos : zn (1 + (j + 1)) (d.1 + 1) ∧ 1 ≤ (d.1 + 1).toInt := by
      have := zn_succ ez (by omega)
      refine ⟨by rw [show 1 + (j + 1) = 1 + j + 1 from rfl]; exact this, ?_⟩
      unfold zn at ez
      rw [zk_tadd (by rw [zk_1]; omega) (by rw [zk_1]; omega), zk_1]; omega
    have hsam : zn (1 + (j + 1)) d.1 := zn_up ez
    unfold k129_18 k264_18
    dsimp only
    rw [hF, k9, e1]
    by_cases c0 : d.2 119 J = 0
    · rw [if_pos c0, if_pos c0, if_pos c0, if_pos c0]
      by_cases c1 : d.2 110 J = -1
      · have hz : (zb ((d.2 118 J = 0) ∧ (((¬ (d.2 110 J) < 0) ∧ (¬ (d.2 13 45) ≤ (d.2 110 J))) ∧ (¬ d.2 119 (d.2 110 J).toNatClampNeg = 0)))) = 0 := by
          rw [zb_0]; rintro ⟨-, ⟨q, -⟩, -⟩; rw [c1] at q; exact q (by decide)
        rw [if_pos hz, if_pos hz, if_pos c1, if_pos c1]
        exact ⟨rfl, hT, e13, em, hsam, e0⟩
      · have hr := hpar.resolve_left c1
        have g1 : ¬ (d.2 110 J) < 0 := by rw [zk_lt, zlt_0]; omega
        have g2 : ¬ (d.2 13 45) ≤ (d.2 110 J) := by rw [zk_le]; omega
        rw [if_neg c1, if_neg c1]
        by_cases c2 : d.2 119 (d.2 110 J).toNatClampNeg = 0
        · have hz : (zb ((d.2 118 J = 0) ∧ (((¬ (d.2 110 J) < 0) ∧ (¬ (d.2 13 45) ≤ (d.2 110 J))) ∧ (¬ d.2 119 (d.2 110 J).toNatClampNeg = 0)))) = 0 := by
            rw [zb_0]; rintro ⟨-, -, q⟩; exact q c2
          rw [if_pos hz, if_pos hz, if_pos c2, if_pos c2]
          exact ⟨rfl, hT, e13, em, hsam, e0⟩
        · rw [if_neg c2, if_neg c2]
          by_cases c3 : d.2 118 J = 0
          · have hz : ¬ (zb ((d.2 118 J = 0) ∧ (((¬ (d.2 110 J) < 0) ∧ (¬ (d.2 13 45) ≤ (d.2 110 J))) ∧ (¬ d.2 119 (d.2 110 J).toNatClampNeg = 0)))) = 0 := by
              rw [zb_0]; exact fun q => q ⟨c3, ⟨g1, g2⟩, c2⟩
            rw [if_neg hz, if_neg hz, if_pos c3, if_pos c3]
            refine ⟨rfl, ?_, (zupci rfl).trans e13, ?_, hpos.1, hpos.2⟩
            · unfold zTok
              simp only [zup2, zup1, k0, k1, k2, k3, k4, k5, k6, k7, k8, k9, not_false_eq_true, not_true_eq_false, Nat.reduceEqDiff, reduceIte, true_and, and_true, ite_true, ite_false]
              refine ⟨k10, k11, k12, k13, k14, ?_, k16, ?_, k18, k19⟩
              · intro i hi
                rw [if_neg (by rw [e13] at hi; omega)]; exact k15 i hi
              · intro i
                split
                · exact Or.inr rfl
                · exact k17 i
            · intro i hi
              show ¬ (z_up d.2 119 J 1) 119 i = 0
              rw [zup2, if_pos rfl]
              split
              · decide
              · exact em i hi
          · have hz : (zb ((d.2 118 J = 0) ∧ (((¬ (d.2 110 J) < 0) ∧ (¬ (d.2 13 45) ≤ (d.2 110 J))) ∧ (¬ d.2 119 (d.2 110 J).toNatClampNeg = 0)))) = 0 := by
              rw [zb_0]; rintro ⟨q, -, -⟩; exact c3 q
            rw [if_pos hz, if_pos hz, if_neg c3, if_neg c3]
            exact ⟨rfl, hT, e13, em, hsam, e0⟩
    · rw [if_neg c0, if_neg c0, if_neg c0, if_neg c0]
      exact ⟨rfl, hT, e13, em, hsam, e0⟩)
  obtain ⟨r1, r2, r3, r4, r5, r6⟩ := key
  have hup : ∀ i, (z_up T 119 a.toNatClampNeg 1) 119 i = if i = a.toNatClampNeg then 1 else T 119 i := fun i => by rw [zup2, if_pos rfl]
  refine ⟨r2, r1, fun i hi => r4 i ?_, r4 _ ?_, ?_⟩
  · rw [hup]; split
    · decide
    · exact hi
  · rw [hup, if_pos rfl]; decide
  · rw [zk_le, zlt_0]; omega
/-- a token whose uses may be at 0 although it lives -/
def zUm (a : Int32) (T : zS) : Prop := ∀ j, j < (T 13 45).toNatClampNeg → T 119 j = 0 → T 117 j = 0 → (j : Int) = a.toInt
theorem zUm_of {S T : zS} (h : zUse S T) (a : Int32) : zUm a T := fun j hj h1 h2 => absurd h2 (h j hj h1)
theorem zdie {n : Nat} {S T : zS} (h : zQ n S T) (a : Int32) (ha : 0 ≤ a.toInt) (hlt : a.toInt < (T 13 45).toInt) : zQ n (G200 a S) (G264 a T) ∧ (if ((S 40 a.toNatClampNeg) = 0) then ((K129_18_c2 a 1 (a + 1).toNatClampNeg (z_up S 40 a.toNatClampNeg 1)) : Int32) else 0) = K264_18_c2 a (zb ((T 119 a.toNatClampNeg) = 0)) (a + 1).toNatClampNeg (z_up T 119 a.toNatClampNeg 1) ∧ (∀ b : Int32, zUm b T → (b = a ∨ zUse S T) → zUse (G200 a S) (G264 a T)) := by
  have hT := zQ_Tok h
  have s40 : S 40 = T 119 := hT.2.2.2.2.2.2.2.2.2.1
  have hnt := zk_nat (zQ_Tok h).2.2.2.2.2.2.2.2.2.2.1.1
  have hna := zk_nat ha
  have hkey := zQ_Key h
  by_cases c0 : T 119 a.toNatClampNeg = 0
  · obtain ⟨z1, z2, z3, z4, z5⟩ := zkill hT a ha hlt
    have eS : G200 a S = K54_6_5_2_S (T 13 1) 0 (K129_18_S a 1 (a + 1).toNatClampNeg (z_up S 40 a.toNatClampNeg 1)) := by
      unfold G200
      rw [s40, if_pos c0]
      have e : (K129_18_S a 1 (a + 1).toNatClampNeg (z_up S 40 a.toNatClampNeg 1)) 0 11 = T 13 1 := ((p_K129_18_S a 1 (a + 1).toNatClampNeg (z_up S 40 a.toNatClampNeg 1)).2 0 11 rfl rfl).trans ((zupci rfl).trans hkey.2.2.2.2.2.2.1)
      rw [e]
    have eT : G264 a T = K264_58_S a (K264_18_c2 a 1 (a + 1).toNatClampNeg (z_up T 119 a.toNatClampNeg 1)) 0 (K264_18_S a 1 (a + 1).toNatClampNeg (z_up T 119 a.toNatClampNeg 1)) := by
      unfold G264
      rw [(show zb (T 119 a.toNatClampNeg = 0) = 1 from if_pos c0)]
    have hpS := p_K129_18_S a 1 (a + 1).toNatClampNeg (z_up S 40 a.toNatClampNeg 1)
    have hpT := p_K264_18_S a 1 (a + 1).toNatClampNeg (z_up T 119 a.toNatClampNeg 1)
    have hkS : zkp [40] [] S (K129_18_S a 1 (a + 1).toNatClampNeg (z_up S 40 a.toNatClampNeg 1)) := zkp_tr (zkp_up zkp_S rfl rfl) hpS rfl rfl
    have hkT : zkp [119] [] T (K264_18_S a 1 (a + 1).toNatClampNeg (z_up T 119 a.toNatClampNeg 1)) := zkp_tr (zkp_up zkp_S rfl rfl) hpT rfl rfl
    generalize K129_18_S a 1 (a + 1).toNatClampNeg (z_up S 40 a.toNatClampNeg 1) = S1 at *
    generalize K264_18_S a 1 (a + 1).toNatClampNeg (z_up T 119 a.toNatClampNeg 1) = T1 at *
    have hL1 : zLea S1 T1 := zLea_kc rfl hkS (zLea_km rfl hkT (zQ_Lea h))
    have t13 : ∀ i, T1 13 i = T 13 i := fun i => congrFun (hkT.1 13 rfl) i
    have t120 : T1 120 = T 120 := hkT.1 120 rfl
    have t125 : T1 125 = T 125 := hkT.1 125 rfl
    have t117 : T1 117 = T 117 := hkT.1 117 rfl
    have s41 : S1 40 = T1 119 := z1.2.2.2.2.2.2.2.2.2.1
    obtain ⟨w1, w2⟩ := zdl hL1 s41 _ (T 13 1) a z5 (t13 1)
    rw [eS, eT]
    have hkS2 := zkp_tr (l := [40, 44, 46, 47, 49]) (fl := []) (zkp_tr (zkp_S (S := S)) hkS rfl rfl) (p_K54_6_5_2_S (T 13 1) 0 S1) rfl rfl
    have hkT2 := zkp_tr (l := [119, 123, 125, 126, 128]) (fl := []) (zkp_tr (zkp_S (S := T)) hkT rfl rfl) (p_K264_58_S a (K264_18_c2 a 1 (a + 1).toNatClampNeg (z_up T 119 a.toNatClampNeg 1)) 0 T1) rfl rfl
    have hpT2 := p_K264_58_S a (K264_18_c2 a 1 (a + 1).toNatClampNeg (z_up T 119 a.toNatClampNeg 1)) 0 T1
    have hpS2 := p_K54_6_5_2_S (T 13 1) 0 S1
    generalize K54_6_5_2_S (T 13 1) 0 S1 = S2 at *
    generalize K264_58_S a (K264_18_c2 a 1 (a + 1).toNatClampNeg (z_up T 119 a.toNatClampNeg 1)) 0 T1 = T2 at *
    have u119 : T2 119 = T1 119 := hpT2.1 119 rfl
    have u120 : T2 120 = T 120 := (hpT2.1 120 rfl).trans t120
    have u117 : T2 117 = T 117 := (hpT2.1 117 rfl).trans t117
    have u13 : ∀ i, T2 13 i = T 13 i := fun i => congrFun ((hpT2.1 13 rfl).trans (hkT.1 13 rfl)) i
    refine ⟨⟨(zSeal_kc rfl hkS2 (zSeal_km rfl hkT2 (zQ_Seal h))), (zKey_kc rfl hkS2 (zKey_km rfl hkT2 (zQ_Key h))), (zEng_kc rfl hkS2 (zEng_km rfl hkT2 (zQ_Eng h))), (zRul_kc rfl hkS2 (zRul_km rfl hkT2 (zQ_Rul h))), (zPpl_kc rfl hkS2 (zPpl_km rfl hkT2 (zQ_Ppl h))), zTok_kc rfl hpS2 (zTok_km rfl hpT2 z1), w1, ?_, (zSto_kc rfl hkS2 (zSto_km rfl hkT2 (zQ_Sto h))), (zFar_kc rfl hkS2 (zFar_km rfl hkT2 (zQ_Far h))), (zLog_kc rfl hkS2 (zLog_km rfl hkT2 (zQ_Log h))), (zWra_kc rfl hkS2 (zWra_km rfl hkT2 (zQ_Wra h))), (zCas_kc rfl hkS2 (zCas_km rfl hkT2 (zQ_Cas h))), (zCer_kc rfl hkS2 (zCer_km rfl hkT2 (zQ_Cer h))), (zSin_kc rfl hkS2 (zSin_km rfl hkT2 (zQ_Sin h)))⟩, ?_, ?_⟩
    · intro i hi e
      rw [u13] at hi
      obtain ⟨v1, v2⟩ := w2 i (by rw [t13]; exact hi) e
      rw [t125] at v2
      rw [t120] at v1
      refine ⟨by rw [u119, u120]; exact v1, ?_⟩
      rw [u120, u13]
      exact (zQ_LT h i hi v2).2
    · rw [s40, if_pos c0, (show zb (T 119 a.toNatClampNeg = 0) = 1 from if_pos c0)]
      exact z2
    · intro b hb hor i hi e1 e2
      rw [u13] at hi
      rw [u119] at e1
      rw [u117] at e2
      have e3 : T 119 i = 0 := Classical.byContradiction (fun hn => z3 i hn e1)
      have e4 := hb i hi e3 e2
      rcases hor with rfl | hu
      · have : i = b.toNatClampNeg := by omega
        rw [this] at e1
        exact z4 e1
      · exact hu i hi e3 e2
  · have eS : G200 a S = S := by
      unfold G200
      rw [s40, if_neg c0]
      exact zdl_id (zQ_Lea h) hT (zQ_LT h) _
    have e1 : T 119 a.toNatClampNeg = 1 := (hT.2.2.2.2.2.2.2.2.2.2.2.2.2.2.2.2.2.1 a.toNatClampNeg).resolve_left c0
    have eT : G264 a T = T := by
      unfold G264
      rw [(show zb (T 119 a.toNatClampNeg = 0) = 0 from if_neg c0), zup_id T 119 _ 1 e1]
      unfold K264_58_S K264_58 K264_18_c2 K264_18_S K264_18
      rw [if_pos (show (0 : Int32) ≤ 0 by decide)]
      rfl
    rw [eS, eT]
    refine ⟨h, ?_, ?_⟩
    · rw [s40, if_neg c0, (show zb (T 119 a.toNatClampNeg = 0) = 0 from if_neg c0), zup_id T 119 _ 1 e1]
      unfold K264_18_c2 K264_18
      rw [if_pos (show (0 : Int32) ≤ 0 by decide)]
      rfl
    · intro b hb hor i hi k1 k2
      rcases hor with rfl | hu
      · have e4 := hb i hi k1 k2
        have : i = b.toNatClampNeg := by omega
        rw [this] at k1
        exact c0 k1
      · exact hu i hi k1 k2

/-! call 2: the class and the reference answer alike (wip/whole/man/02.txt) -/
set_option maxHeartbeats 200000 in
theorem zyr2 {n : Nat} {S T : zS} (q1 : Int32) (q2 : Int32) (hn : n < 512) (h : zR n S T) : ((G223 q1 q2 T) 13 0) = (F326_0_148 q1 q2 S) ∧ ((F326_0_148 q1 q2 S) = 0 → ((G326_0_148 q1 q2 S) 148 0) = (F223 q1 q2 T)) := by
  have e9 := i_Seal_9 h
  have e11 := i_Seal_11 h
  have sf := fun a1 a2 a3 a4 => zSub_facts (q1 := q1) (q2 := q2) h a1 a2 a3 a4
  simp only [F223, F326_0_148, F88, G223, G326_0_148, G88, zup2, zup1, zite2, zite1, upd_r, K95_1, K95_r, K214_1, K214_r, zcO_of, zgO_82, zCnt_82, q_1_0 h, q_1_1 h, q_1_2 h, q_1_6 h, ite_self, not_false_eq_true, not_true_eq_false, Nat.reduceEqDiff, reduceIte, true_and, and_true, false_and, and_false, ite_true, ite_false]
  first
  | done
  | (simp only [zk_lt, zk_le, zlt_m1, zlt_0, zlt_1, zlt_2, zlt_3, zlt_4, zlt_5, zlt_6, zlt_7, zlt_8, zlt_9, zlt_10, zlt_15, zlt_16, zlt_20, zlt_24, zlt_30, zlt_36, zlt_39, zlt_40, zlt_50, zlt_72, zlt_100, zlt_199, zlt_200, zlt_215, zlt_216, zlt_255, zlt_256, zlt_1000, zlt_9999, zlt_65535, zlt_1000000000, Int.lt_iff_add_one_le, zti_ite, zb_0, Decidable.not_not, zif_x1, zif_x2, zif_x3, zif_1x, zif_2x, zif_3x, zite_an, and_assoc, ite_self, not_false_eq_true, not_true_eq_false, Nat.reduceEqDiff, reduceIte, true_and, and_true, false_and, and_false, ite_true, ite_false]; done)
  | (simp only [zk_lt, zk_le, zlt_m1, zlt_0, zlt_1, zlt_2, zlt_3, zlt_4, zlt_5, zlt_6, zlt_7, zlt_8, zlt_9, zlt_10, zlt_15, zlt_16, zlt_20, zlt_24, zlt_30, zlt_36, zlt_39, zlt_40, zlt_50, zlt_72, zlt_100, zlt_199, zlt_200, zlt_215, zlt_216, zlt_255, zlt_256, zlt_1000, zlt_9999, zlt_65535, zlt_1000000000, Int.lt_iff_add_one_le, zti_ite, zb_0, Decidable.not_not, zif_x1, zif_x2, zif_x3, zif_1x, zif_2x, zif_3x, zite_an, and_assoc, ite_self, not_false_eq_true, not_true_eq_false, Nat.reduceEqDiff, reduceIte, true_and, and_true, false_and, and_false, ite_true, ite_false]; grind [zb])
  | grind [zb]
set_option maxHeartbeats 200000 in
theorem zyt2_Seal {n : Nat} {S T : zS} (q1 : Int32) (q2 : Int32) (hn : n < 512) (h : zR n S T) : zSeal (G326_0_148 q1 q2 S) (M2 q1 q2 T) := by
  have hr := zR_Seal h
  unfold zSeal at hr ⊢
  obtain ⟨h0, h1, h2, h3, h4, h5, h6, h7, h8, h9, h10, h11, h12, h13, h14, h15, h16, h17, h18, h19, h20⟩ := hr
  have hcl := zSeal_cl h
  have sf := fun a1 a2 a3 a4 => zSub_facts (q1 := q1) (q2 := q2) h a1 a2 a3 a4
  refine ⟨?_, ?_, ?_, ?_, ?_, ?_, ?_, ?_, ?_, ?_, ?_, ?_, ?_, ?_, ?_, ?_, ?_, ?_, ?_, ?_, ?_⟩
  · (try simp only [F223, F326_0_148, F88, G223, G326_0_148, G88, M2, zup2, zup1, zite2, zite1, upd_r, K95_1, K95_r, K214_1, K214_r, zcO_of, zgO_82, zCnt_82, (zSeal_cl h).1, (zSeal_cl h).2.1, (zSeal_cl h).2.2, q_1_0 h, q_1_1 h, q_1_2 h, q_1_6 h, q_1_7 h, q_1_8 h, q_1_9 h, q_1_10 h, q_14 h, ite_self, not_false_eq_true, not_true_eq_false, Nat.reduceEqDiff, reduceIte, true_and, and_true, false_and, and_false, ite_true, ite_false])
    first
    | done
    | with_reducible exact h0
    | (simp only [zk_lt, zk_le, zlt_m1, zlt_0, zlt_1, zlt_2, zlt_3, zlt_4, zlt_5, zlt_6, zlt_7, zlt_8, zlt_9, zlt_10, zlt_15, zlt_16, zlt_20, zlt_24, zlt_30, zlt_36, zlt_39, zlt_40, zlt_50, zlt_72, zlt_100, zlt_199, zlt_200, zlt_215, zlt_216, zlt_255, zlt_256, zlt_1000, zlt_9999, zlt_65535, zlt_1000000000, Int.lt_iff_add_one_le, zti_ite, zb_0, Decidable.not_not, zif_x1, zif_x2, zif_x3, zif_1x, zif_2x, zif_3x, zite_an, and_assoc, ite_self, not_false_eq_true, not_true_eq_false, Nat.reduceEqDiff, reduceIte, true_and, and_true, false_and, and_false, ite_true, ite_false]; done)
    | (simp only [zk_lt, zk_le, zlt_m1, zlt_0, zlt_1, zlt_2, zlt_3, zlt_4, zlt_5, zlt_6, zlt_7, zlt_8, zlt_9, zlt_10, zlt_15, zlt_16, zlt_20, zlt_24, zlt_30, zlt_36, zlt_39, zlt_40, zlt_50, zlt_72, zlt_100, zlt_199, zlt_200, zlt_215, zlt_216, zlt_255, zlt_256, zlt_1000, zlt_9999, zlt_65535, zlt_1000000000, Int.lt_iff_add_one_le, zti_ite, zb_0, Decidable.not_not, zif_x1, zif_x2, zif_x3, zif_1x, zif_2x, zif_3x, zite_an, and_assoc, ite_self, not_false_eq_true, not_true_eq_false, Nat.reduceEqDiff, reduceIte, true_and, and_true, false_and, and_false, ite_true, ite_false]; with_reducible exact h0)
    | grind [zb]
  · (try simp only [F223, F326_0_148, F88, G223, G326_0_148, G88, M2, zup2, zup1, zite2, zite1, upd_r, K95_1, K95_r, K214_1, K214_r, zcO_of, zgO_82, zCnt_82, (zSeal_cl h).1, (zSeal_cl h).2.1, (zSeal_cl h).2.2, q_1_0 h, q_1_1 h, q_1_2 h, q_1_6 h, q_1_7 h, q_1_8 h, q_1_9 h, q_1_10 h, q_14 h, ite_self, not_false_eq_true, not_true_eq_false, Nat.reduceEqDiff, reduceIte, true_and, and_true, false_and, and_false, ite_true, ite_false])
    first
    | done
    | with_reducible exact h1
    | (simp only [zk_lt, zk_le, zlt_m1, zlt_0, zlt_1, zlt_2, zlt_3, zlt_4, zlt_5, zlt_6, zlt_7, zlt_8, zlt_9, zlt_10, zlt_15, zlt_16, zlt_20, zlt_24, zlt_30, zlt_36, zlt_39, zlt_40, zlt_50, zlt_72, zlt_100, zlt_199, zlt_200, zlt_215, zlt_216, zlt_255, zlt_256, zlt_1000, zlt_9999, zlt_65535, zlt_1000000000, Int.lt_iff_add_one_le, zti_ite, zb_0, Decidable.not_not, zif_x1, zif_x2, zif_x3, zif_1x, zif_2x, zif_3x, zite_an, and_assoc, ite_self, not_false_eq_true, not_true_eq_false, Nat.reduceEqDiff, reduceIte, true_and, and_true, false_and, and_false, ite_true, ite_false]; done)
    | (simp only [zk_lt, zk_le, zlt_m1, zlt_0, zlt_1, zlt_2, zlt_3, zlt_4, zlt_5, zlt_6, zlt_7, zlt_8, zlt_9, zlt_10, zlt_15, zlt_16, zlt_20, zlt_24, zlt_30, zlt_36, zlt_39, zlt_40, zlt_50, zlt_72, zlt_100, zlt_199, zlt_200, zlt_215, zlt_216, zlt_255, zlt_256, zlt_1000, zlt_9999, zlt_65535, zlt_1000000000, Int.lt_iff_add_one_le, zti_ite, zb_0, Decidable.not_not, zif_x1, zif_x2, zif_x3, zif_1x, zif_2x, zif_3x, zite_an, and_assoc, ite_self, not_false_eq_true, not_true_eq_false, Nat.reduceEqDiff, reduceIte, true_and, and_true, false_and, and_false, ite_true, ite_false]; with_reducible exact h1)
    | grind [zb]
  · (try simp only [F223, F326_0_148, F88, G223, G326_0_148, G88, M2, zup2, zup1, zite2, zite1, upd_r, K95_1, K95_r, K214_1, K214_r, zcO_of, zgO_82, zCnt_82, (zSeal_cl h).1, (zSeal_cl h).2.1, (zSeal_cl h).2.2, q_1_0 h, q_1_1 h, q_1_2 h, q_1_6 h, q_1_7 h, q_1_8 h, q_1_9 h, q_1_10 h, q_14 h, ite_self, not_false_eq_true, not_true_eq_false, Nat.reduceEqDiff, reduceIte, true_and, and_true, false_and, and_false, ite_true, ite_false])
    first
    | done
    | with_reducible exact h2
    | (simp only [zk_lt, zk_le, zlt_m1, zlt_0, zlt_1, zlt_2, zlt_3, zlt_4, zlt_5, zlt_6, zlt_7, zlt_8, zlt_9, zlt_10, zlt_15, zlt_16, zlt_20, zlt_24, zlt_30, zlt_36, zlt_39, zlt_40, zlt_50, zlt_72, zlt_100, zlt_199, zlt_200, zlt_215, zlt_216, zlt_255, zlt_256, zlt_1000, zlt_9999, zlt_65535, zlt_1000000000, Int.lt_iff_add_one_le, zti_ite, zb_0, Decidable.not_not, zif_x1, zif_x2, zif_x3, zif_1x, zif_2x, zif_3x, zite_an, and_assoc, ite_self, not_false_eq_true, not_true_eq_false, Nat.reduceEqDiff, reduceIte, true_and, and_true, false_and, and_false, ite_true, ite_false]; done)
    | (simp only [zk_lt, zk_le, zlt_m1, zlt_0, zlt_1, zlt_2, zlt_3, zlt_4, zlt_5, zlt_6, zlt_7, zlt_8, zlt_9, zlt_10, zlt_15, zlt_16, zlt_20, zlt_24, zlt_30, zlt_36, zlt_39, zlt_40, zlt_50, zlt_72, zlt_100, zlt_199, zlt_200, zlt_215, zlt_216, zlt_255, zlt_256, zlt_1000, zlt_9999, zlt_65535, zlt_1000000000, Int.lt_iff_add_one_le, zti_ite, zb_0, Decidable.not_not, zif_x1, zif_x2, zif_x3, zif_1x, zif_2x, zif_3x, zite_an, and_assoc, ite_self, not_false_eq_true, not_true_eq_false, Nat.reduceEqDiff, reduceIte, true_and, and_true, false_and, and_false, ite_true, ite_false]; with_reducible exact h2)
    | grind [zb]
  · simp only [F223, F326_0_148, F88, G223, G326_0_148, G88, M2, zup2, zup1, zite2, zite1, upd_r, K95_1, K95_r, K214_1, K214_r, zcO_of, zgO_82, zCnt_82, (zSeal_cl h).1, (zSeal_cl h).2.1, (zSeal_cl h).2.2, q_1_0 h, q_1_1 h, q_1_2 h, q_1_6 h, q_1_7 h, q_1_8 h, q_1_9 h, q_1_10 h, q_14 h, ite_self, not_false_eq_true, not_true_eq_false, Nat.reduceEqDiff, reduceIte, true_and, and_true, false_and, and_false, ite_true, ite_false]
    clear h12 h14 h20; grind [zb]
  · (try simp only [F223, F326_0_148, F88, G223, G326_0_148, G88, M2, zup2, zup1, zite2, zite1, upd_r, K95_1, K95_r, K214_1, K214_r, zcO_of, zgO_82, zCnt_82, (zSeal_cl h).1, (zSeal_cl h).2.1, (zSeal_cl h).2.2, q_1_0 h, q_1_1 h, q_1_2 h, q_1_6 h, q_1_7 h, q_1_8 h, q_1_9 h, q_1_10 h, q_14 h, ite_self, not_false_eq_true, not_true_eq_false, Nat.reduceEqDiff, reduceIte, true_and, and_true, false_and, and_false, ite_true, ite_false])
    first
    | done
    | with_reducible exact h4
    | (simp only [zk_lt, zk_le, zlt_m1, zlt_0, zlt_1, zlt_2, zlt_3, zlt_4, zlt_5, zlt_6, zlt_7, zlt_8, zlt_9, zlt_10, zlt_15, zlt_16, zlt_20, zlt_24, zlt_30, zlt_36, zlt_39, zlt_40, zlt_50, zlt_72, zlt_100, zlt_199, zlt_200, zlt_215, zlt_216, zlt_255, zlt_256, zlt_1000, zlt_9999, zlt_65535, zlt_1000000000, Int.lt_iff_add_one_le, zti_ite, zb_0, Decidable.not_not, zif_x1, zif_x2, zif_x3, zif_1x, zif_2x, zif_3x, zite_an, and_assoc, ite_self, not_false_eq_true, not_true_eq_false, Nat.reduceEqDiff, reduceIte, true_and, and_true, false_and, and_false, ite_true, ite_false]; done)
    | (simp only [zk_lt, zk_le, zlt_m1, zlt_0, zlt_1, zlt_2, zlt_3, zlt_4, zlt_5, zlt_6, zlt_7, zlt_8, zlt_9, zlt_10, zlt_15, zlt_16, zlt_20, zlt_24, zlt_30, zlt_36, zlt_39, zlt_40, zlt_50, zlt_72, zlt_100, zlt_199, zlt_200, zlt_215, zlt_216, zlt_255, zlt_256, zlt_1000, zlt_9999, zlt_65535, zlt_1000000000, Int.lt_iff_add_one_le, zti_ite, zb_0, Decidable.not_not, zif_x1, zif_x2, zif_x3, zif_1x, zif_2x, zif_3x, zite_an, and_assoc, ite_self, not_false_eq_true, not_true_eq_false, Nat.reduceEqDiff, reduceIte, true_and, and_true, false_and, and_false, ite_true, ite_false]; with_reducible exact h4)
    | grind [zb]
  · (try simp only [F223, F326_0_148, F88, G223, G326_0_148, G88, M2, zup2, zup1, zite2, zite1, upd_r, K95_1, K95_r, K214_1, K214_r, zcO_of, zgO_82, zCnt_82, (zSeal_cl h).1, (zSeal_cl h).2.1, (zSeal_cl h).2.2, q_1_0 h, q_1_1 h, q_1_2 h, q_1_6 h, q_1_7 h, q_1_8 h, q_1_9 h, q_1_10 h, q_14 h, ite_self, not_false_eq_true, not_true_eq_false, Nat.reduceEqDiff, reduceIte, true_and, and_true, false_and, and_false, ite_true, ite_false])
    first
    | done
    | with_reducible exact h5
    | (simp only [zk_lt, zk_le, zlt_m1, zlt_0, zlt_1, zlt_2, zlt_3, zlt_4, zlt_5, zlt_6, zlt_7, zlt_8, zlt_9, zlt_10, zlt_15, zlt_16, zlt_20, zlt_24, zlt_30, zlt_36, zlt_39, zlt_40, zlt_50, zlt_72, zlt_100, zlt_199, zlt_200, zlt_215, zlt_216, zlt_255, zlt_256, zlt_1000, zlt_9999, zlt_65535, zlt_1000000000, Int.lt_iff_add_one_le, zti_ite, zb_0, Decidable.not_not, zif_x1, zif_x2, zif_x3, zif_1x, zif_2x, zif_3x, zite_an, and_assoc, ite_self, not_false_eq_true, not_true_eq_false, Nat.reduceEqDiff, reduceIte, true_and, and_true, false_and, and_false, ite_true, ite_false]; done)
    | (simp only [zk_lt, zk_le, zlt_m1, zlt_0, zlt_1, zlt_2, zlt_3, zlt_4, zlt_5, zlt_6, zlt_7, zlt_8, zlt_9, zlt_10, zlt_15, zlt_16, zlt_20, zlt_24, zlt_30, zlt_36, zlt_39, zlt_40, zlt_50, zlt_72, zlt_100, zlt_199, zlt_200, zlt_215, zlt_216, zlt_255, zlt_256, zlt_1000, zlt_9999, zlt_65535, zlt_1000000000, Int.lt_iff_add_one_le, zti_ite, zb_0, Decidable.not_not, zif_x1, zif_x2, zif_x3, zif_1x, zif_2x, zif_3x, zite_an, and_assoc, ite_self, not_false_eq_true, not_true_eq_false, Nat.reduceEqDiff, reduceIte, true_and, and_true, false_and, and_false, ite_true, ite_false]; with_reducible exact h5)
    | grind [zb]
  · (try simp only [F223, F326_0_148, F88, G223, G326_0_148, G88, M2, zup2, zup1, zite2, zite1, upd_r, K95_1, K95_r, K214_1, K214_r, zcO_of, zgO_82, zCnt_82, (zSeal_cl h).1, (zSeal_cl h).2.1, (zSeal_cl h).2.2, q_1_0 h, q_1_1 h, q_1_2 h, q_1_6 h, q_1_7 h, q_1_8 h, q_1_9 h, q_1_10 h, q_14 h, ite_self, not_false_eq_true, not_true_eq_false, Nat.reduceEqDiff, reduceIte, true_and, and_true, false_and, and_false, ite_true, ite_false])
    first
    | done
    | with_reducible exact h6
    | (simp only [zk_lt, zk_le, zlt_m1, zlt_0, zlt_1, zlt_2, zlt_3, zlt_4, zlt_5, zlt_6, zlt_7, zlt_8, zlt_9, zlt_10, zlt_15, zlt_16, zlt_20, zlt_24, zlt_30, zlt_36, zlt_39, zlt_40, zlt_50, zlt_72, zlt_100, zlt_199, zlt_200, zlt_215, zlt_216, zlt_255, zlt_256, zlt_1000, zlt_9999, zlt_65535, zlt_1000000000, Int.lt_iff_add_one_le, zti_ite, zb_0, Decidable.not_not, zif_x1, zif_x2, zif_x3, zif_1x, zif_2x, zif_3x, zite_an, and_assoc, ite_self, not_false_eq_true, not_true_eq_false, Nat.reduceEqDiff, reduceIte, true_and, and_true, false_and, and_false, ite_true, ite_false]; done)
    | (simp only [zk_lt, zk_le, zlt_m1, zlt_0, zlt_1, zlt_2, zlt_3, zlt_4, zlt_5, zlt_6, zlt_7, zlt_8, zlt_9, zlt_10, zlt_15, zlt_16, zlt_20, zlt_24, zlt_30, zlt_36, zlt_39, zlt_40, zlt_50, zlt_72, zlt_100, zlt_199, zlt_200, zlt_215, zlt_216, zlt_255, zlt_256, zlt_1000, zlt_9999, zlt_65535, zlt_1000000000, Int.lt_iff_add_one_le, zti_ite, zb_0, Decidable.not_not, zif_x1, zif_x2, zif_x3, zif_1x, zif_2x, zif_3x, zite_an, and_assoc, ite_self, not_false_eq_true, not_true_eq_false, Nat.reduceEqDiff, reduceIte, true_and, and_true, false_and, and_false, ite_true, ite_false]; with_reducible exact h6)
    | grind [zb]
  · (try simp only [F223, F326_0_148, F88, G223, G326_0_148, G88, M2, zup2, zup1, zite2, zite1, upd_r, K95_1, K95_r, K214_1, K214_r, zcO_of, zgO_82, zCnt_82, (zSeal_cl h).1, (zSeal_cl h).2.1, (zSeal_cl h).2.2, q_1_0 h, q_1_1 h, q_1_2 h, q_1_6 h, q_1_7 h, q_1_8 h, q_1_9 h, q_1_10 h, q_14 h, ite_self, not_false_eq_true, not_true_eq_false, Nat.reduceEqDiff, reduceIte, true_and, and_true, false_and, and_false, ite_true, ite_false])
    first
    | done
    | with_reducible exact h7
    | (simp only [zk_lt, zk_le, zlt_m1, zlt_0, zlt_1, zlt_2, zlt_3, zlt_4, zlt_5, zlt_6, zlt_7, zlt_8, zlt_9, zlt_10, zlt_15, zlt_16, zlt_20, zlt_24, zlt_30, zlt_36, zlt_39, zlt_40, zlt_50, zlt_72, zlt_100, zlt_199, zlt_200, zlt_215, zlt_216, zlt_255, zlt_256, zlt_1000, zlt_9999, zlt_65535, zlt_1000000000, Int.lt_iff_add_one_le, zti_ite, zb_0, Decidable.not_not, zif_x1, zif_x2, zif_x3, zif_1x, zif_2x, zif_3x, zite_an, and_assoc, ite_self, not_false_eq_true, not_true_eq_false, Nat.reduceEqDiff, reduceIte, true_and, and_true, false_and, and_false, ite_true, ite_false]; done)
    | (simp only [zk_lt, zk_le, zlt_m1, zlt_0, zlt_1, zlt_2, zlt_3, zlt_4, zlt_5, zlt_6, zlt_7, zlt_8, zlt_9, zlt_10, zlt_15, zlt_16, zlt_20, zlt_24, zlt_30, zlt_36, zlt_39, zlt_40, zlt_50, zlt_72, zlt_100, zlt_199, zlt_200, zlt_215, zlt_216, zlt_255, zlt_256, zlt_1000, zlt_9999, zlt_65535, zlt_1000000000, Int.lt_iff_add_one_le, zti_ite, zb_0, Decidable.not_not, zif_x1, zif_x2, zif_x3, zif_1x, zif_2x, zif_3x, zite_an, and_assoc, ite_self, not_false_eq_true, not_true_eq_false, Nat.reduceEqDiff, reduceIte, true_and, and_true, false_and, and_false, ite_true, ite_false]; with_reducible exact h7)
    | grind [zb]
  · (try simp only [F223, F326_0_148, F88, G223, G326_0_148, G88, M2, zup2, zup1, zite2, zite1, upd_r, K95_1, K95_r, K214_1, K214_r, zcO_of, zgO_82, zCnt_82, (zSeal_cl h).1, (zSeal_cl h).2.1, (zSeal_cl h).2.2, q_1_0 h, q_1_1 h, q_1_2 h, q_1_6 h, q_1_7 h, q_1_8 h, q_1_9 h, q_1_10 h, q_14 h, ite_self, not_false_eq_true, not_true_eq_false, Nat.reduceEqDiff, reduceIte, true_and, and_true, false_and, and_false, ite_true, ite_false])
    first
    | done
    | with_reducible exact h8
    | (simp only [zk_lt, zk_le, zlt_m1, zlt_0, zlt_1, zlt_2, zlt_3, zlt_4, zlt_5, zlt_6, zlt_7, zlt_8, zlt_9, zlt_10, zlt_15, zlt_16, zlt_20, zlt_24, zlt_30, zlt_36, zlt_39, zlt_40, zlt_50, zlt_72, zlt_100, zlt_199, zlt_200, zlt_215, zlt_216, zlt_255, zlt_256, zlt_1000, zlt_9999, zlt_65535, zlt_1000000000, Int.lt_iff_add_one_le, zti_ite, zb_0, Decidable.not_not, zif_x1, zif_x2, zif_x3, zif_1x, zif_2x, zif_3x, zite_an, and_assoc, ite_self, not_false_eq_true, not_true_eq_false, Nat.reduceEqDiff, reduceIte, true_and, and_true, false_and, and_false, ite_true, ite_false]; done)
    | (simp only [zk_lt, zk_le, zlt_m1, zlt_0, zlt_1, zlt_2, zlt_3, zlt_4, zlt_5, zlt_6, zlt_7, zlt_8, zlt_9, zlt_10, zlt_15, zlt_16, zlt_20, zlt_24, zlt_30, zlt_36, zlt_39, zlt_40, zlt_50, zlt_72, zlt_100, zlt_199, zlt_200, zlt_215, zlt_216, zlt_255, zlt_256, zlt_1000, zlt_9999, zlt_65535, zlt_1000000000, Int.lt_iff_add_one_le, zti_ite, zb_0, Decidable.not_not, zif_x1, zif_x2, zif_x3, zif_1x, zif_2x, zif_3x, zite_an, and_assoc, ite_self, not_false_eq_true, not_true_eq_false, Nat.reduceEqDiff, reduceIte, true_and, and_true, false_and, and_false, ite_true, ite_false]; with_reducible exact h8)
    | grind [zb]
  · simp only [F223, F326_0_148, F88, G223, G326_0_148, G88, M2, zup2, zup1, zite2, zite1, upd_r, K95_1, K95_r, K214_1, K214_r, zcO_of, zgO_82, zCnt_82, (zSeal_cl h).1, (zSeal_cl h).2.1, (zSeal_cl h).2.2, q_1_0 h, q_1_1 h, q_1_2 h, q_1_6 h, q_1_7 h, q_1_8 h, q_1_9 h, q_1_10 h, q_14 h, ite_self, not_false_eq_true, not_true_eq_false, Nat.reduceEqDiff, reduceIte, true_and, and_true, false_and, and_false, ite_true, ite_false]
    clear h12 h14 h20; grind [zb]
  · simp only [F223, F326_0_148, F88, G223, G326_0_148, G88, M2, zup2, zup1, zite2, zite1, upd_r, K95_1, K95_r, K214_1, K214_r, zcO_of, zgO_82, zCnt_82, (zSeal_cl h).1, (zSeal_cl h).2.1, (zSeal_cl h).2.2, q_1_0 h, q_1_1 h, q_1_2 h, q_1_6 h, q_1_7 h, q_1_8 h, q_1_9 h, q_1_10 h, q_14 h, ite_self, not_false_eq_true, not_true_eq_false, Nat.reduceEqDiff, reduceIte, true_and, and_true, false_and, and_false, ite_true, ite_false]
    clear h12 h14 h20; grind [zb]
  · simp only [F223, F326_0_148, F88, G223, G326_0_148, G88, M2, zup2, zup1, zite2, zite1, upd_r, K95_1, K95_r, K214_1, K214_r, zcO_of, zgO_82, zCnt_82, (zSeal_cl h).1, (zSeal_cl h).2.1, (zSeal_cl h).2.2, q_1_0 h, q_1_1 h, q_1_2 h, q_1_6 h, q_1_7 h, q_1_8 h, q_1_9 h, q_1_10 h, q_14 h, ite_self, not_false_eq_true, not_true_eq_false, Nat.reduceEqDiff, reduceIte, true_and, and_true, false_and, and_false, ite_true, ite_false]
    clear h12 h14 h20; grind [zb, zCnt_no]
  · simp only [F223, F326_0_148, F88, G223, G326_0_148, G88, M2, zup2, zup1, zite2, zite1, upd_r, K95_1, K95_r, K214_1, K214_r, zcO_of, zgO_82, zCnt_82, (zSeal_cl h).1, (zSeal_cl h).2.1, (zSeal_cl h).2.2, q_1_0 h, q_1_1 h, q_1_2 h, q_1_6 h, q_1_7 h, q_1_8 h, q_1_9 h, q_1_10 h, q_14 h, ite_self, not_false_eq_true, not_true_eq_false, Nat.reduceEqDiff, reduceIte, true_and, and_true, false_and, and_false, ite_true, ite_false]
    have hq2 : ((¬ q2 < 0) ∧ (¬ 256 < q2)) → -1 ≤ q2.toInt ∧ q2.toInt ≤ 256 := by
      rintro ⟨g1, g2⟩
      rw [zk_lt, zlt_0] at g1
      rw [zk_lt, zlt_256] at g2
      omega
    intro i hi; have hk := h12 i hi; clear h12 h14 h20
    (repeat' split) <;> first | exact hk | (rw [zcl_lt hi]; decide) | exact hq2 (by assumption)
  · simp only [F223, F326_0_148, F88, G223, G326_0_148, G88, M2, zup2, zup1, zite2, zite1, upd_r, K95_1, K95_r, K214_1, K214_r, zcO_of, zgO_82, zCnt_82, (zSeal_cl h).1, (zSeal_cl h).2.1, (zSeal_cl h).2.2, q_1_0 h, q_1_1 h, q_1_2 h, q_1_6 h, q_1_7 h, q_1_8 h, q_1_9 h, q_1_10 h, q_14 h, ite_self, not_false_eq_true, not_true_eq_false, Nat.reduceEqDiff, reduceIte, true_and, and_true, false_and, and_false, ite_true, ite_false]
    clear h12 h14 h20; grind [zNo_lt, zcl_lt]
  · simp only [F223, F326_0_148, F88, G223, G326_0_148, G88, M2, zup2, zup1, zite2, zite1, upd_r, K95_1, K95_r, K214_1, K214_r, zcO_of, zgO_82, zCnt_82, (zSeal_cl h).1, (zSeal_cl h).2.1, (zSeal_cl h).2.2, q_1_0 h, q_1_1 h, q_1_2 h, q_1_6 h, q_1_7 h, q_1_8 h, q_1_9 h, q_1_10 h, q_14 h, ite_self, not_false_eq_true, not_true_eq_false, Nat.reduceEqDiff, reduceIte, true_and, and_true, false_and, and_false, ite_true, ite_false]
    intro i hi; have := h14 i hi; clear h12 h14 h20; grind [zNo_lt, zcl_lt]
  · simp only [F223, F326_0_148, F88, G223, G326_0_148, G88, M2, zup2, zup1, zite2, zite1, upd_r, K95_1, K95_r, K214_1, K214_r, zcO_of, zgO_82, zCnt_82, (zSeal_cl h).1, (zSeal_cl h).2.1, (zSeal_cl h).2.2, q_1_0 h, q_1_1 h, q_1_2 h, q_1_6 h, q_1_7 h, q_1_8 h, q_1_9 h, q_1_10 h, q_14 h, ite_self, not_false_eq_true, not_true_eq_false, Nat.reduceEqDiff, reduceIte, true_and, and_true, false_and, and_false, ite_true, ite_false]
    clear h12 h14 h20; grind [zo, zb]
  · simp only [F223, F326_0_148, F88, G223, G326_0_148, G88, M2, zup2, zup1, zite2, zite1, upd_r, K95_1, K95_r, K214_1, K214_r, zcO_of, zgO_82, zCnt_82, (zSeal_cl h).1, (zSeal_cl h).2.1, (zSeal_cl h).2.2, q_1_0 h, q_1_1 h, q_1_2 h, q_1_6 h, q_1_7 h, q_1_8 h, q_1_9 h, q_1_10 h, q_14 h, ite_self, not_false_eq_true, not_true_eq_false, Nat.reduceEqDiff, reduceIte, true_and, and_true, false_and, and_false, ite_true, ite_false]
    clear h12 h14 h20; grind [zo, zb]
  · (try simp only [F223, F326_0_148, F88, G223, G326_0_148, G88, M2, zup2, zup1, zite2, zite1, upd_r, K95_1, K95_r, K214_1, K214_r, zcO_of, zgO_82, zCnt_82, (zSeal_cl h).1, (zSeal_cl h).2.1, (zSeal_cl h).2.2, q_1_0 h, q_1_1 h, q_1_2 h, q_1_6 h, q_1_7 h, q_1_8 h, q_1_9 h, q_1_10 h, q_14 h, ite_self, not_false_eq_true, not_true_eq_false, Nat.reduceEqDiff, reduceIte, true_and, and_true, false_and, and_false, ite_true, ite_false])
    first
    | done
    | with_reducible exact h17
    | (simp only [zk_lt, zk_le, zlt_m1, zlt_0, zlt_1, zlt_2, zlt_3, zlt_4, zlt_5, zlt_6, zlt_7, zlt_8, zlt_9, zlt_10, zlt_15, zlt_16, zlt_20, zlt_24, zlt_30, zlt_36, zlt_39, zlt_40, zlt_50, zlt_72, zlt_100, zlt_199, zlt_200, zlt_215, zlt_216, zlt_255, zlt_256, zlt_1000, zlt_9999, zlt_65535, zlt_1000000000, Int.lt_iff_add_one_le, zti_ite, zb_0, Decidable.not_not, zif_x1, zif_x2, zif_x3, zif_1x, zif_2x, zif_3x, zite_an, and_assoc, ite_self, not_false_eq_true, not_true_eq_false, Nat.reduceEqDiff, reduceIte, true_and, and_true, false_and, and_false, ite_true, ite_false]; done)
    | (simp only [zk_lt, zk_le, zlt_m1, zlt_0, zlt_1, zlt_2, zlt_3, zlt_4, zlt_5, zlt_6, zlt_7, zlt_8, zlt_9, zlt_10, zlt_15, zlt_16, zlt_20, zlt_24, zlt_30, zlt_36, zlt_39, zlt_40, zlt_50, zlt_72, zlt_100, zlt_199, zlt_200, zlt_215, zlt_216, zlt_255, zlt_256, zlt_1000, zlt_9999, zlt_65535, zlt_1000000000, Int.lt_iff_add_one_le, zti_ite, zb_0, Decidable.not_not, zif_x1, zif_x2, zif_x3, zif_1x, zif_2x, zif_3x, zite_an, and_assoc, ite_self, not_false_eq_true, not_true_eq_false, Nat.reduceEqDiff, reduceIte, true_and, and_true, false_and, and_false, ite_true, ite_false]; with_reducible exact h17)
    | grind [zb]
  · (try simp only [F223, F326_0_148, F88, G223, G326_0_148, G88, M2, zup2, zup1, zite2, zite1, upd_r, K95_1, K95_r, K214_1, K214_r, zcO_of, zgO_82, zCnt_82, (zSeal_cl h).1, (zSeal_cl h).2.1, (zSeal_cl h).2.2, q_1_0 h, q_1_1 h, q_1_2 h, q_1_6 h, q_1_7 h, q_1_8 h, q_1_9 h, q_1_10 h, q_14 h, ite_self, not_false_eq_true, not_true_eq_false, Nat.reduceEqDiff, reduceIte, true_and, and_true, false_and, and_false, ite_true, ite_false])
    first
    | done
    | with_reducible exact h18
    | (simp only [zk_lt, zk_le, zlt_m1, zlt_0, zlt_1, zlt_2, zlt_3, zlt_4, zlt_5, zlt_6, zlt_7, zlt_8, zlt_9, zlt_10, zlt_15, zlt_16, zlt_20, zlt_24, zlt_30, zlt_36, zlt_39, zlt_40, zlt_50, zlt_72, zlt_100, zlt_199, zlt_200, zlt_215, zlt_216, zlt_255, zlt_256, zlt_1000, zlt_9999, zlt_65535, zlt_1000000000, Int.lt_iff_add_one_le, zti_ite, zb_0, Decidable.not_not, zif_x1, zif_x2, zif_x3, zif_1x, zif_2x, zif_3x, zite_an, and_assoc, ite_self, not_false_eq_true, not_true_eq_false, Nat.reduceEqDiff, reduceIte, true_and, and_true, false_and, and_false, ite_true, ite_false]; done)
    | (simp only [zk_lt, zk_le, zlt_m1, zlt_0, zlt_1, zlt_2, zlt_3, zlt_4, zlt_5, zlt_6, zlt_7, zlt_8, zlt_9, zlt_10, zlt_15, zlt_16, zlt_20, zlt_24, zlt_30, zlt_36, zlt_39, zlt_40, zlt_50, zlt_72, zlt_100, zlt_199, zlt_200, zlt_215, zlt_216, zlt_255, zlt_256, zlt_1000, zlt_9999, zlt_65535, zlt_1000000000, Int.lt_iff_add_one_le, zti_ite, zb_0, Decidable.not_not, zif_x1, zif_x2, zif_x3, zif_1x, zif_2x, zif_3x, zite_an, and_assoc, ite_self, not_false_eq_true, not_true_eq_false, Nat.reduceEqDiff, reduceIte, true_and, and_true, false_and, and_false, ite_true, ite_false]; with_reducible exact h18)
    | grind [zb]
  · (try simp only [F223, F326_0_148, F88, G223, G326_0_148, G88, M2, zup2, zup1, zite2, zite1, upd_r, K95_1, K95_r, K214_1, K214_r, zcO_of, zgO_82, zCnt_82, (zSeal_cl h).1, (zSeal_cl h).2.1, (zSeal_cl h).2.2, q_1_0 h, q_1_1 h, q_1_2 h, q_1_6 h, q_1_7 h, q_1_8 h, q_1_9 h, q_1_10 h, q_14 h, ite_self, not_false_eq_true, not_true_eq_false, Nat.reduceEqDiff, reduceIte, true_and, and_true, false_and, and_false, ite_true, ite_false])
    first
    | done
    | with_reducible exact h19
    | (simp only [zk_lt, zk_le, zlt_m1, zlt_0, zlt_1, zlt_2, zlt_3, zlt_4, zlt_5, zlt_6, zlt_7, zlt_8, zlt_9, zlt_10, zlt_15, zlt_16, zlt_20, zlt_24, zlt_30, zlt_36, zlt_39, zlt_40, zlt_50, zlt_72, zlt_100, zlt_199, zlt_200, zlt_215, zlt_216, zlt_255, zlt_256, zlt_1000, zlt_9999, zlt_65535, zlt_1000000000, Int.lt_iff_add_one_le, zti_ite, zb_0, Decidable.not_not, zif_x1, zif_x2, zif_x3, zif_1x, zif_2x, zif_3x, zite_an, and_assoc, ite_self, not_false_eq_true, not_true_eq_false, Nat.reduceEqDiff, reduceIte, true_and, and_true, false_and, and_false, ite_true, ite_false]; done)
    | (simp only [zk_lt, zk_le, zlt_m1, zlt_0, zlt_1, zlt_2, zlt_3, zlt_4, zlt_5, zlt_6, zlt_7, zlt_8, zlt_9, zlt_10, zlt_15, zlt_16, zlt_20, zlt_24, zlt_30, zlt_36, zlt_39, zlt_40, zlt_50, zlt_72, zlt_100, zlt_199, zlt_200, zlt_215, zlt_216, zlt_255, zlt_256, zlt_1000, zlt_9999, zlt_65535, zlt_1000000000, Int.lt_iff_add_one_le, zti_ite, zb_0, Decidable.not_not, zif_x1, zif_x2, zif_x3, zif_1x, zif_2x, zif_3x, zite_an, and_assoc, ite_self, not_false_eq_true, not_true_eq_false, Nat.reduceEqDiff, reduceIte, true_and, and_true, false_and, and_false, ite_true, ite_false]; with_reducible exact h19)
    | grind [zb]
  · simp only [F223, F326_0_148, F88, G223, G326_0_148, G88, M2, zup2, zup1, zite2, zite1, upd_r, K95_1, K95_r, K214_1, K214_r, zcO_of, zgO_82, zCnt_82, (zSeal_cl h).1, (zSeal_cl h).2.1, (zSeal_cl h).2.2, q_1_0 h, q_1_1 h, q_1_2 h, q_1_6 h, q_1_7 h, q_1_8 h, q_1_9 h, q_1_10 h, q_14 h, ite_self, not_false_eq_true, not_true_eq_false, Nat.reduceEqDiff, reduceIte, true_and, and_true, false_and, and_false, ite_true, ite_false]
    intro i hi; have := h20 i hi; clear h12 h14 h20; grind [zNo_ge, zcl_ge, upd_r]

/-! call 6: the class and the reference answer alike (wip/whole/man/06.txt) -/
set_option maxHeartbeats 200000 in
theorem zyr6 {n : Nat} {S T : zS} (q1 : Int32) (q2 : Int32) (hn : n < 512) (h : zR n S T) : ((G227 q1 q2 T) 13 0) = (F328_0_148 q1 q2 S) ∧ ((F328_0_148 q1 q2 S) = 0 → ((G328_0_148 q1 q2 S) 148 0) = (F227 q1 q2 T)) := by
  have e9 := i_Seal_9 h
  have e10 := i_Seal_10 h
  have e11 := i_Seal_11 h
  have sf := fun a1 a2 a3 a4 => zSub_facts (q1 := q1) (q2 := q2) h a1 a2 a3 a4
  simp only [F227, F328_0_148, F90, G227, G328_0_148, G90, zup2, zup1, zite2, zite1, upd_r, K95_1, K95_r, K214_1, K214_r, zcO_of, zgO_83, zCnt_83, G216_13_0, q_1_0 h, q_1_1 h, q_1_2 h, q_1_7 h, ite_self, not_false_eq_true, not_true_eq_false, Nat.reduceEqDiff, reduceIte, true_and, and_true, false_and, and_false, ite_true, ite_false]
  first
  | done
  | (simp only [zk_lt, zk_le, zlt_m1, zlt_0, zlt_1, zlt_2, zlt_3, zlt_4, zlt_5, zlt_6, zlt_7, zlt_8, zlt_9, zlt_10, zlt_15, zlt_16, zlt_20, zlt_24, zlt_30, zlt_36, zlt_39, zlt_40, zlt_50, zlt_72, zlt_100, zlt_199, zlt_200, zlt_215, zlt_216, zlt_255, zlt_256, zlt_1000, zlt_9999, zlt_65535, zlt_1000000000, Int.lt_iff_add_one_le, zti_ite, zb_0, Decidable.not_not, zif_x1, zif_x2, zif_x3, zif_1x, zif_2x, zif_3x, zite_an, and_assoc, ite_self, not_false_eq_true, not_true_eq_false, Nat.reduceEqDiff, reduceIte, true_and, and_true, false_and, and_false, ite_true, ite_false]; done)
  | (simp only [zk_lt, zk_le, zlt_m1, zlt_0, zlt_1, zlt_2, zlt_3, zlt_4, zlt_5, zlt_6, zlt_7, zlt_8, zlt_9, zlt_10, zlt_15, zlt_16, zlt_20, zlt_24, zlt_30, zlt_36, zlt_39, zlt_40, zlt_50, zlt_72, zlt_100, zlt_199, zlt_200, zlt_215, zlt_216, zlt_255, zlt_256, zlt_1000, zlt_9999, zlt_65535, zlt_1000000000, Int.lt_iff_add_one_le, zti_ite, zb_0, Decidable.not_not, zif_x1, zif_x2, zif_x3, zif_1x, zif_2x, zif_3x, zite_an, and_assoc, ite_self, not_false_eq_true, not_true_eq_false, Nat.reduceEqDiff, reduceIte, true_and, and_true, false_and, and_false, ite_true, ite_false]; grind [zb])
  | grind [zb]
set_option maxHeartbeats 200000 in
theorem zyt6_Seal {n : Nat} {S T : zS} (q1 : Int32) (q2 : Int32) (hn : n < 512) (h : zR n S T) : zSeal (G328_0_148 q1 q2 S) (M6 q1 q2 T) := by
  have hr := zR_Seal h
  unfold zSeal at hr ⊢
  obtain ⟨h0, h1, h2, h3, h4, h5, h6, h7, h8, h9, h10, h11, h12, h13, h14, h15, h16, h17, h18, h19, h20⟩ := hr
  have hcl := zSeal_cl h
  have sf := fun a1 a2 a3 a4 => zSub_facts (q1 := q1) (q2 := q2) h a1 a2 a3 a4
  have e8 := fun (A B : zS) (a b c : Int32) (k14 : A 14 = B 81) (k0 : A 1 0 = B 13 3) => zGen (a := a) (b := b) (c := c) k14 k0
  refine ⟨?_, ?_, ?_, ?_, ?_, ?_, ?_, ?_, ?_, ?_, ?_, ?_, ?_, ?_, ?_, ?_, ?_, ?_, ?_, ?_, ?_⟩
  · (try simp only [F227, F328_0_148, F90, G227, G328_0_148, G90, M6, zup2, zup1, zite2, zite1, upd_r, K95_1, K95_r, K214_1, K214_r, zcO_of, zgO_83, zCnt_83, (zSeal_cl h).1, (zSeal_cl h).2.1, (zSeal_cl h).2.2, G87_1_0, G87_1_1, G87_1_2, G87_1_5, G87_1_6, G87_1_7, G87_1_8, G87_1_9, G87_1_10, G87_15, G216_13_0, G216_13_2, G216_13_3, G216_13_4, G216_13_5, G216_13_9, G216_13_10, G216_13_11, G216_13_12, G216_82, G216_83, q_1_0 h, q_1_1 h, q_1_2 h, q_1_6 h, q_1_7 h, q_1_8 h, q_1_9 h, q_1_10 h, q_14 h, ite_self, not_false_eq_true, not_true_eq_false, Nat.reduceEqDiff, reduceIte, true_and, and_true, false_and, and_false, ite_true, ite_false])
    first
    | done
    | with_reducible exact h0
    | (simp only [zk_lt, zk_le, zlt_m1, zlt_0, zlt_1, zlt_2, zlt_3, zlt_4, zlt_5, zlt_6, zlt_7, zlt_8, zlt_9, zlt_10, zlt_15, zlt_16, zlt_20, zlt_24, zlt_30, zlt_36, zlt_39, zlt_40, zlt_50, zlt_72, zlt_100, zlt_199, zlt_200, zlt_215, zlt_216, zlt_255, zlt_256, zlt_1000, zlt_9999, zlt_65535, zlt_1000000000, Int.lt_iff_add_one_le, zti_ite, zb_0, Decidable.not_not, zif_x1, zif_x2, zif_x3, zif_1x, zif_2x, zif_3x, zite_an, and_assoc, ite_self, not_false_eq_true, not_true_eq_false, Nat.reduceEqDiff, reduceIte, true_and, and_true, false_and, and_false, ite_true, ite_false]; done)
    | (simp only [zk_lt, zk_le, zlt_m1, zlt_0, zlt_1, zlt_2, zlt_3, zlt_4, zlt_5, zlt_6, zlt_7, zlt_8, zlt_9, zlt_10, zlt_15, zlt_16, zlt_20, zlt_24, zlt_30, zlt_36, zlt_39, zlt_40, zlt_50, zlt_72, zlt_100, zlt_199, zlt_200, zlt_215, zlt_216, zlt_255, zlt_256, zlt_1000, zlt_9999, zlt_65535, zlt_1000000000, Int.lt_iff_add_one_le, zti_ite, zb_0, Decidable.not_not, zif_x1, zif_x2, zif_x3, zif_1x, zif_2x, zif_3x, zite_an, and_assoc, ite_self, not_false_eq_true, not_true_eq_false, Nat.reduceEqDiff, reduceIte, true_and, and_true, false_and, and_false, ite_true, ite_false]; with_reducible exact h0)
    | grind [zb]
  · (try simp only [F227, F328_0_148, F90, G227, G328_0_148, G90, M6, zup2, zup1, zite2, zite1, upd_r, K95_1, K95_r, K214_1, K214_r, zcO_of, zgO_83, zCnt_83, (zSeal_cl h).1, (zSeal_cl h).2.1, (zSeal_cl h).2.2, G87_1_0, G87_1_1, G87_1_2, G87_1_5, G87_1_6, G87_1_7, G87_1_8, G87_1_9, G87_1_10, G87_15, G216_13_0, G216_13_2, G216_13_3, G216_13_4, G216_13_5, G216_13_9, G216_13_10, G216_13_11, G216_13_12, G216_82, G216_83, q_1_0 h, q_1_1 h, q_1_2 h, q_1_6 h, q_1_7 h, q_1_8 h, q_1_9 h, q_1_10 h, q_14 h, ite_self, not_false_eq_true, not_true_eq_false, Nat.reduceEqDiff, reduceIte, true_and, and_true, false_and, and_false, ite_true, ite_false])
    first
    | done
    | with_reducible exact h1
    | (simp only [zk_lt, zk_le, zlt_m1, zlt_0, zlt_1, zlt_2, zlt_3, zlt_4, zlt_5, zlt_6, zlt_7, zlt_8, zlt_9, zlt_10, zlt_15, zlt_16, zlt_20, zlt_24, zlt_30, zlt_36, zlt_39, zlt_40, zlt_50, zlt_72, zlt_100, zlt_199, zlt_200, zlt_215, zlt_216, zlt_255, zlt_256, zlt_1000, zlt_9999, zlt_65535, zlt_1000000000, Int.lt_iff_add_one_le, zti_ite, zb_0, Decidable.not_not, zif_x1, zif_x2, zif_x3, zif_1x, zif_2x, zif_3x, zite_an, and_assoc, ite_self, not_false_eq_true, not_true_eq_false, Nat.reduceEqDiff, reduceIte, true_and, and_true, false_and, and_false, ite_true, ite_false]; done)
    | (simp only [zk_lt, zk_le, zlt_m1, zlt_0, zlt_1, zlt_2, zlt_3, zlt_4, zlt_5, zlt_6, zlt_7, zlt_8, zlt_9, zlt_10, zlt_15, zlt_16, zlt_20, zlt_24, zlt_30, zlt_36, zlt_39, zlt_40, zlt_50, zlt_72, zlt_100, zlt_199, zlt_200, zlt_215, zlt_216, zlt_255, zlt_256, zlt_1000, zlt_9999, zlt_65535, zlt_1000000000, Int.lt_iff_add_one_le, zti_ite, zb_0, Decidable.not_not, zif_x1, zif_x2, zif_x3, zif_1x, zif_2x, zif_3x, zite_an, and_assoc, ite_self, not_false_eq_true, not_true_eq_false, Nat.reduceEqDiff, reduceIte, true_and, and_true, false_and, and_false, ite_true, ite_false]; with_reducible exact h1)
    | grind [zb]
  · (try simp only [F227, F328_0_148, F90, G227, G328_0_148, G90, M6, zup2, zup1, zite2, zite1, upd_r, K95_1, K95_r, K214_1, K214_r, zcO_of, zgO_83, zCnt_83, (zSeal_cl h).1, (zSeal_cl h).2.1, (zSeal_cl h).2.2, G87_1_0, G87_1_1, G87_1_2, G87_1_5, G87_1_6, G87_1_7, G87_1_8, G87_1_9, G87_1_10, G87_15, G216_13_0, G216_13_2, G216_13_3, G216_13_4, G216_13_5, G216_13_9, G216_13_10, G216_13_11, G216_13_12, G216_82, G216_83, q_1_0 h, q_1_1 h, q_1_2 h, q_1_6 h, q_1_7 h, q_1_8 h, q_1_9 h, q_1_10 h, q_14 h, ite_self, not_false_eq_true, not_true_eq_false, Nat.reduceEqDiff, reduceIte, true_and, and_true, false_and, and_false, ite_true, ite_false])
    first
    | done
    | with_reducible exact h2
    | (simp only [zk_lt, zk_le, zlt_m1, zlt_0, zlt_1, zlt_2, zlt_3, zlt_4, zlt_5, zlt_6, zlt_7, zlt_8, zlt_9, zlt_10, zlt_15, zlt_16, zlt_20, zlt_24, zlt_30, zlt_36, zlt_39, zlt_40, zlt_50, zlt_72, zlt_100, zlt_199, zlt_200, zlt_215, zlt_216, zlt_255, zlt_256, zlt_1000, zlt_9999, zlt_65535, zlt_1000000000, Int.lt_iff_add_one_le, zti_ite, zb_0, Decidable.not_not, zif_x1, zif_x2, zif_x3, zif_1x, zif_2x, zif_3x, zite_an, and_assoc, ite_self, not_false_eq_true, not_true_eq_false, Nat.reduceEqDiff, reduceIte, true_and, and_true, false_and, and_false, ite_true, ite_false]; done)
    | (simp only [zk_lt, zk_le, zlt_m1, zlt_0, zlt_1, zlt_2, zlt_3, zlt_4, zlt_5, zlt_6, zlt_7, zlt_8, zlt_9, zlt_10, zlt_15, zlt_16, zlt_20, zlt_24, zlt_30, zlt_36, zlt_39, zlt_40, zlt_50, zlt_72, zlt_100, zlt_199, zlt_200, zlt_215, zlt_216, zlt_255, zlt_256, zlt_1000, zlt_9999, zlt_65535, zlt_1000000000, Int.lt_iff_add_one_le, zti_ite, zb_0, Decidable.not_not, zif_x1, zif_x2, zif_x3, zif_1x, zif_2x, zif_3x, zite_an, and_assoc, ite_self, not_false_eq_true, not_true_eq_false, Nat.reduceEqDiff, reduceIte, true_and, and_true, false_and, and_false, ite_true, ite_false]; with_reducible exact h2)
    | grind [zb]
  · (try simp only [F227, F328_0_148, F90, G227, G328_0_148, G90, M6, zup2, zup1, zite2, zite1, upd_r, K95_1, K95_r, K214_1, K214_r, zcO_of, zgO_83, zCnt_83, (zSeal_cl h).1, (zSeal_cl h).2.1, (zSeal_cl h).2.2, G87_1_0, G87_1_1, G87_1_2, G87_1_5, G87_1_6, G87_1_7, G87_1_8, G87_1_9, G87_1_10, G87_15, G216_13_0, G216_13_2, G216_13_3, G216_13_4, G216_13_5, G216_13_9, G216_13_10, G216_13_11, G216_13_12, G216_82, G216_83, q_1_0 h, q_1_1 h, q_1_2 h, q_1_6 h, q_1_7 h, q_1_8 h, q_1_9 h, q_1_10 h, q_14 h, ite_self, not_false_eq_true, not_true_eq_false, Nat.reduceEqDiff, reduceIte, true_and, and_true, false_and, and_false, ite_true, ite_false])
    first
    | done
    | with_reducible exact h3
    | (simp only [zk_lt, zk_le, zlt_m1, zlt_0, zlt_1, zlt_2, zlt_3, zlt_4, zlt_5, zlt_6, zlt_7, zlt_8, zlt_9, zlt_10, zlt_15, zlt_16, zlt_20, zlt_24, zlt_30, zlt_36, zlt_39, zlt_40, zlt_50, zlt_72, zlt_100, zlt_199, zlt_200, zlt_215, zlt_216, zlt_255, zlt_256, zlt_1000, zlt_9999, zlt_65535, zlt_1000000000, Int.lt_iff_add_one_le, zti_ite, zb_0, Decidable.not_not, zif_x1, zif_x2, zif_x3, zif_1x, zif_2x, zif_3x, zite_an, and_assoc, ite_self, not_false_eq_true, not_true_eq_false, Nat.reduceEqDiff, reduceIte, true_and, and_true, false_and, and_false, ite_true, ite_false]; done)
    | (simp only [zk_lt, zk_le, zlt_m1, zlt_0, zlt_1, zlt_2, zlt_3, zlt_4, zlt_5, zlt_6, zlt_7, zlt_8, zlt_9, zlt_10, zlt_15, zlt_16, zlt_20, zlt_24, zlt_30, zlt_36, zlt_39, zlt_40, zlt_50, zlt_72, zlt_100, zlt_199, zlt_200, zlt_215, zlt_216, zlt_255, zlt_256, zlt_1000, zlt_9999, zlt_65535, zlt_1000000000, Int.lt_iff_add_one_le, zti_ite, zb_0, Decidable.not_not, zif_x1, zif_x2, zif_x3, zif_1x, zif_2x, zif_3x, zite_an, and_assoc, ite_self, not_false_eq_true, not_true_eq_false, Nat.reduceEqDiff, reduceIte, true_and, and_true, false_and, and_false, ite_true, ite_false]; with_reducible exact h3)
    | grind [zb]
  · (try simp only [F227, F328_0_148, F90, G227, G328_0_148, G90, M6, zup2, zup1, zite2, zite1, upd_r, K95_1, K95_r, K214_1, K214_r, zcO_of, zgO_83, zCnt_83, (zSeal_cl h).1, (zSeal_cl h).2.1, (zSeal_cl h).2.2, G87_1_0, G87_1_1, G87_1_2, G87_1_5, G87_1_6, G87_1_7, G87_1_8, G87_1_9, G87_1_10, G87_15, G216_13_0, G216_13_2, G216_13_3, G216_13_4, G216_13_5, G216_13_9, G216_13_10, G216_13_11, G216_13_12, G216_82, G216_83, q_1_0 h, q_1_1 h, q_1_2 h, q_1_6 h, q_1_7 h, q_1_8 h, q_1_9 h, q_1_10 h, q_14 h, ite_self, not_false_eq_true, not_true_eq_false, Nat.reduceEqDiff, reduceIte, true_and, and_true, false_and, and_false, ite_true, ite_false])
    first
    | done
    | with_reducible exact h4
    | (simp only [zk_lt, zk_le, zlt_m1, zlt_0, zlt_1, zlt_2, zlt_3, zlt_4, zlt_5, zlt_6, zlt_7, zlt_8, zlt_9, zlt_10, zlt_15, zlt_16, zlt_20, zlt_24, zlt_30, zlt_36, zlt_39, zlt_40, zlt_50, zlt_72, zlt_100, zlt_199, zlt_200, zlt_215, zlt_216, zlt_255, zlt_256, zlt_1000, zlt_9999, zlt_65535, zlt_1000000000, Int.lt_iff_add_one_le, zti_ite, zb_0, Decidable.not_not, zif_x1, zif_x2, zif_x3, zif_1x, zif_2x, zif_3x, zite_an, and_assoc, ite_self, not_false_eq_true, not_true_eq_false, Nat.reduceEqDiff, reduceIte, true_and, and_true, false_and, and_false, ite_true, ite_false]; done)
    | (simp only [zk_lt, zk_le, zlt_m1, zlt_0, zlt_1, zlt_2, zlt_3, zlt_4, zlt_5, zlt_6, zlt_7, zlt_8, zlt_9, zlt_10, zlt_15, zlt_16, zlt_20, zlt_24, zlt_30, zlt_36, zlt_39, zlt_40, zlt_50, zlt_72, zlt_100, zlt_199, zlt_200, zlt_215, zlt_216, zlt_255, zlt_256, zlt_1000, zlt_9999, zlt_65535, zlt_1000000000, Int.lt_iff_add_one_le, zti_ite, zb_0, Decidable.not_not, zif_x1, zif_x2, zif_x3, zif_1x, zif_2x, zif_3x, zite_an, and_assoc, ite_self, not_false_eq_true, not_true_eq_false, Nat.reduceEqDiff, reduceIte, true_and, and_true, false_and, and_false, ite_true, ite_false]; with_reducible exact h4)
    | grind [zb]
  · (try simp only [F227, F328_0_148, F90, G227, G328_0_148, G90, M6, zup2, zup1, zite2, zite1, upd_r, K95_1, K95_r, K214_1, K214_r, zcO_of, zgO_83, zCnt_83, (zSeal_cl h).1, (zSeal_cl h).2.1, (zSeal_cl h).2.2, G87_1_0, G87_1_1, G87_1_2, G87_1_5, G87_1_6, G87_1_7, G87_1_8, G87_1_9, G87_1_10, G87_15, G216_13_0, G216_13_2, G216_13_3, G216_13_4, G216_13_5, G216_13_9, G216_13_10, G216_13_11, G216_13_12, G216_82, G216_83, q_1_0 h, q_1_1 h, q_1_2 h, q_1_6 h, q_1_7 h, q_1_8 h, q_1_9 h, q_1_10 h, q_14 h, ite_self, not_false_eq_true, not_true_eq_false, Nat.reduceEqDiff, reduceIte, true_and, and_true, false_and, and_false, ite_true, ite_false])
    first
    | done
    | with_reducible exact h5
    | (simp only [zk_lt, zk_le, zlt_m1, zlt_0, zlt_1, zlt_2, zlt_3, zlt_4, zlt_5, zlt_6, zlt_7, zlt_8, zlt_9, zlt_10, zlt_15, zlt_16, zlt_20, zlt_24, zlt_30, zlt_36, zlt_39, zlt_40, zlt_50, zlt_72, zlt_100, zlt_199, zlt_200, zlt_215, zlt_216, zlt_255, zlt_256, zlt_1000, zlt_9999, zlt_65535, zlt_1000000000, Int.lt_iff_add_one_le, zti_ite, zb_0, Decidable.not_not, zif_x1, zif_x2, zif_x3, zif_1x, zif_2x, zif_3x, zite_an, and_assoc, ite_self, not_false_eq_true, not_true_eq_false, Nat.reduceEqDiff, reduceIte, true_and, and_true, false_and, and_false, ite_true, ite_false]; done)
    | (simp only [zk_lt, zk_le, zlt_m1, zlt_0, zlt_1, zlt_2, zlt_3, zlt_4, zlt_5, zlt_6, zlt_7, zlt_8, zlt_9, zlt_10, zlt_15, zlt_16, zlt_20, zlt_24, zlt_30, zlt_36, zlt_39, zlt_40, zlt_50, zlt_72, zlt_100, zlt_199, zlt_200, zlt_215, zlt_216, zlt_255, zlt_256, zlt_1000, zlt_9999, zlt_65535, zlt_1000000000, Int.lt_iff_add_one_le, zti_ite, zb_0, Decidable.not_not, zif_x1, zif_x2, zif_x3, zif_1x, zif_2x, zif_3x, zite_an, and_assoc, ite_self, not_false_eq_true, not_true_eq_false, Nat.reduceEqDiff, reduceIte, true_and, and_true, false_and, and_false, ite_true, ite_false]; with_reducible exact h5)
    | grind [zb]
  · (try simp only [F227, F328_0_148, F90, G227, G328_0_148, G90, M6, zup2, zup1, zite2, zite1, upd_r, K95_1, K95_r, K214_1, K214_r, zcO_of, zgO_83, zCnt_83, (zSeal_cl h).1, (zSeal_cl h).2.1, (zSeal_cl h).2.2, G87_1_0, G87_1_1, G87_1_2, G87_1_5, G87_1_6, G87_1_7, G87_1_8, G87_1_9, G87_1_10, G87_15, G216_13_0, G216_13_2, G216_13_3, G216_13_4, G216_13_5, G216_13_9, G216_13_10, G216_13_11, G216_13_12, G216_82, G216_83, q_1_0 h, q_1_1 h, q_1_2 h, q_1_6 h, q_1_7 h, q_1_8 h, q_1_9 h, q_1_10 h, q_14 h, ite_self, not_false_eq_true, not_true_eq_false, Nat.reduceEqDiff, reduceIte, true_and, and_true, false_and, and_false, ite_true, ite_false])
    first
    | done
    | with_reducible exact h6
    | (simp only [zk_lt, zk_le, zlt_m1, zlt_0, zlt_1, zlt_2, zlt_3, zlt_4, zlt_5, zlt_6, zlt_7, zlt_8, zlt_9, zlt_10, zlt_15, zlt_16, zlt_20, zlt_24, zlt_30, zlt_36, zlt_39, zlt_40, zlt_50, zlt_72, zlt_100, zlt_199, zlt_200, zlt_215, zlt_216, zlt_255, zlt_256, zlt_1000, zlt_9999, zlt_65535, zlt_1000000000, Int.lt_iff_add_one_le, zti_ite, zb_0, Decidable.not_not, zif_x1, zif_x2, zif_x3, zif_1x, zif_2x, zif_3x, zite_an, and_assoc, ite_self, not_false_eq_true, not_true_eq_false, Nat.reduceEqDiff, reduceIte, true_and, and_true, false_and, and_false, ite_true, ite_false]; done)
    | (simp only [zk_lt, zk_le, zlt_m1, zlt_0, zlt_1, zlt_2, zlt_3, zlt_4, zlt_5, zlt_6, zlt_7, zlt_8, zlt_9, zlt_10, zlt_15, zlt_16, zlt_20, zlt_24, zlt_30, zlt_36, zlt_39, zlt_40, zlt_50, zlt_72, zlt_100, zlt_199, zlt_200, zlt_215, zlt_216, zlt_255, zlt_256, zlt_1000, zlt_9999, zlt_65535, zlt_1000000000, Int.lt_iff_add_one_le, zti_ite, zb_0, Decidable.not_not, zif_x1, zif_x2, zif_x3, zif_1x, zif_2x, zif_3x, zite_an, and_assoc, ite_self, not_false_eq_true, not_true_eq_false, Nat.reduceEqDiff, reduceIte, true_and, and_true, false_and, and_false, ite_true, ite_false]; with_reducible exact h6)
    | grind [zb]
  · (try simp only [F227, F328_0_148, F90, G227, G328_0_148, G90, M6, zup2, zup1, zite2, zite1, upd_r, K95_1, K95_r, K214_1, K214_r, zcO_of, zgO_83, zCnt_83, (zSeal_cl h).1, (zSeal_cl h).2.1, (zSeal_cl h).2.2, G87_1_0, G87_1_1, G87_1_2, G87_1_5, G87_1_6, G87_1_7, G87_1_8, G87_1_9, G87_1_10, G87_15, G216_13_0, G216_13_2, G216_13_3, G216_13_4, G216_13_5, G216_13_9, G216_13_10, G216_13_11, G216_13_12, G216_82, G216_83, q_1_0 h, q_1_1 h, q_1_2 h, q_1_6 h, q_1_7 h, q_1_8 h, q_1_9 h, q_1_10 h, q_14 h, ite_self, not_false_eq_true, not_true_eq_false, Nat.reduceEqDiff, reduceIte, true_and, and_true, false_and, and_false, ite_true, ite_false])
    first
    | done
    | with_reducible exact h7
    | (simp only [zk_lt, zk_le, zlt_m1, zlt_0, zlt_1, zlt_2, zlt_3, zlt_4, zlt_5, zlt_6, zlt_7, zlt_8, zlt_9, zlt_10, zlt_15, zlt_16, zlt_20, zlt_24, zlt_30, zlt_36, zlt_39, zlt_40, zlt_50, zlt_72, zlt_100, zlt_199, zlt_200, zlt_215, zlt_216, zlt_255, zlt_256, zlt_1000, zlt_9999, zlt_65535, zlt_1000000000, Int.lt_iff_add_one_le, zti_ite, zb_0, Decidable.not_not, zif_x1, zif_x2, zif_x3, zif_1x, zif_2x, zif_3x, zite_an, and_assoc, ite_self, not_false_eq_true, not_true_eq_false, Nat.reduceEqDiff, reduceIte, true_and, and_true, false_and, and_false, ite_true, ite_false]; done)
    | (simp only [zk_lt, zk_le, zlt_m1, zlt_0, zlt_1, zlt_2, zlt_3, zlt_4, zlt_5, zlt_6, zlt_7, zlt_8, zlt_9, zlt_10, zlt_15, zlt_16, zlt_20, zlt_24, zlt_30, zlt_36, zlt_39, zlt_40, zlt_50, zlt_72, zlt_100, zlt_199, zlt_200, zlt_215, zlt_216, zlt_255, zlt_256, zlt_1000, zlt_9999, zlt_65535, zlt_1000000000, Int.lt_iff_add_one_le, zti_ite, zb_0, Decidable.not_not, zif_x1, zif_x2, zif_x3, zif_1x, zif_2x, zif_3x, zite_an, and_assoc, ite_self, not_false_eq_true, not_true_eq_false, Nat.reduceEqDiff, reduceIte, true_and, and_true, false_and, and_false, ite_true, ite_false]; with_reducible exact h7)
    | grind [zb]
  · (try simp only [F227, F328_0_148, F90, G227, G328_0_148, G90, M6, zup2, zup1, zite2, zite1, upd_r, K95_1, K95_r, K214_1, K214_r, zcO_of, zgO_83, zCnt_83, (zSeal_cl h).1, (zSeal_cl h).2.1, (zSeal_cl h).2.2, G87_1_0, G87_1_1, G87_1_2, G87_1_5, G87_1_6, G87_1_7, G87_1_8, G87_1_9, G87_1_10, G87_15, G216_13_0, G216_13_2, G216_13_3, G216_13_4, G216_13_5, G216_13_9, G216_13_10, G216_13_11, G216_13_12, G216_82, G216_83, q_1_0 h, q_1_1 h, q_1_2 h, q_1_6 h, q_1_7 h, q_1_8 h, q_1_9 h, q_1_10 h, q_14 h, ite_self, not_false_eq_true, not_true_eq_false, Nat.reduceEqDiff, reduceIte, true_and, and_true, false_and, and_false, ite_true, ite_false])
    first
    | done
    | with_reducible exact h8
    | (simp only [zk_lt, zk_le, zlt_m1, zlt_0, zlt_1, zlt_2, zlt_3, zlt_4, zlt_5, zlt_6, zlt_7, zlt_8, zlt_9, zlt_10, zlt_15, zlt_16, zlt_20, zlt_24, zlt_30, zlt_36, zlt_39, zlt_40, zlt_50, zlt_72, zlt_100, zlt_199, zlt_200, zlt_215, zlt_216, zlt_255, zlt_256, zlt_1000, zlt_9999, zlt_65535, zlt_1000000000, Int.lt_iff_add_one_le, zti_ite, zb_0, Decidable.not_not, zif_x1, zif_x2, zif_x3, zif_1x, zif_2x, zif_3x, zite_an, and_assoc, ite_self, not_false_eq_true, not_true_eq_false, Nat.reduceEqDiff, reduceIte, true_and, and_true, false_and, and_false, ite_true, ite_false]; done)
    | (simp only [zk_lt, zk_le, zlt_m1, zlt_0, zlt_1, zlt_2, zlt_3, zlt_4, zlt_5, zlt_6, zlt_7, zlt_8, zlt_9, zlt_10, zlt_15, zlt_16, zlt_20, zlt_24, zlt_30, zlt_36, zlt_39, zlt_40, zlt_50, zlt_72, zlt_100, zlt_199, zlt_200, zlt_215, zlt_216, zlt_255, zlt_256, zlt_1000, zlt_9999, zlt_65535, zlt_1000000000, Int.lt_iff_add_one_le, zti_ite, zb_0, Decidable.not_not, zif_x1, zif_x2, zif_x3, zif_1x, zif_2x, zif_3x, zite_an, and_assoc, ite_self, not_false_eq_true, not_true_eq_false, Nat.reduceEqDiff, reduceIte, true_and, and_true, false_and, and_false, ite_true, ite_false]; with_reducible exact h8)
    | grind [zb]
  · (try simp only [F227, F328_0_148, F90, G227, G328_0_148, G90, M6, zup2, zup1, zite2, zite1, upd_r, K95_1, K95_r, K214_1, K214_r, zcO_of, zgO_83, zCnt_83, (zSeal_cl h).1, (zSeal_cl h).2.1, (zSeal_cl h).2.2, G87_1_0, G87_1_1, G87_1_2, G87_1_5, G87_1_6, G87_1_7, G87_1_8, G87_1_9, G87_1_10, G87_15, G216_13_0, G216_13_2, G216_13_3, G216_13_4, G216_13_5, G216_13_9, G216_13_10, G216_13_11, G216_13_12, G216_82, G216_83, q_1_0 h, q_1_1 h, q_1_2 h, q_1_6 h, q_1_7 h, q_1_8 h, q_1_9 h, q_1_10 h, q_14 h, ite_self, not_false_eq_true, not_true_eq_false, Nat.reduceEqDiff, reduceIte, true_and, and_true, false_and, and_false, ite_true, ite_false])
    first
    | done
    | with_reducible exact h9
    | (simp only [zk_lt, zk_le, zlt_m1, zlt_0, zlt_1, zlt_2, zlt_3, zlt_4, zlt_5, zlt_6, zlt_7, zlt_8, zlt_9, zlt_10, zlt_15, zlt_16, zlt_20, zlt_24, zlt_30, zlt_36, zlt_39, zlt_40, zlt_50, zlt_72, zlt_100, zlt_199, zlt_200, zlt_215, zlt_216, zlt_255, zlt_256, zlt_1000, zlt_9999, zlt_65535, zlt_1000000000, Int.lt_iff_add_one_le, zti_ite, zb_0, Decidable.not_not, zif_x1, zif_x2, zif_x3, zif_1x, zif_2x, zif_3x, zite_an, and_assoc, ite_self, not_false_eq_true, not_true_eq_false, Nat.reduceEqDiff, reduceIte, true_and, and_true, false_and, and_false, ite_true, ite_false]; done)
    | (simp only [zk_lt, zk_le, zlt_m1, zlt_0, zlt_1, zlt_2, zlt_3, zlt_4, zlt_5, zlt_6, zlt_7, zlt_8, zlt_9, zlt_10, zlt_15, zlt_16, zlt_20, zlt_24, zlt_30, zlt_36, zlt_39, zlt_40, zlt_50, zlt_72, zlt_100, zlt_199, zlt_200, zlt_215, zlt_216, zlt_255, zlt_256, zlt_1000, zlt_9999, zlt_65535, zlt_1000000000, Int.lt_iff_add_one_le, zti_ite, zb_0, Decidable.not_not, zif_x1, zif_x2, zif_x3, zif_1x, zif_2x, zif_3x, zite_an, and_assoc, ite_self, not_false_eq_true, not_true_eq_false, Nat.reduceEqDiff, reduceIte, true_and, and_true, false_and, and_false, ite_true, ite_false]; with_reducible exact h9)
    | grind [zb]
  · (try simp only [F227, F328_0_148, F90, G227, G328_0_148, G90, M6, zup2, zup1, zite2, zite1, upd_r, K95_1, K95_r, K214_1, K214_r, zcO_of, zgO_83, zCnt_83, (zSeal_cl h).1, (zSeal_cl h).2.1, (zSeal_cl h).2.2, G87_1_0, G87_1_1, G87_1_2, G87_1_5, G87_1_6, G87_1_7, G87_1_8, G87_1_9, G87_1_10, G87_15, G216_13_0, G216_13_2, G216_13_3, G216_13_4, G216_13_5, G216_13_9, G216_13_10, G216_13_11, G216_13_12, G216_82, G216_83, q_1_0 h, q_1_1 h, q_1_2 h, q_1_6 h, q_1_7 h, q_1_8 h, q_1_9 h, q_1_10 h, q_14 h, ite_self, not_false_eq_true, not_true_eq_false, Nat.reduceEqDiff, reduceIte, true_and, and_true, false_and, and_false, ite_true, ite_false])
    first
    | done
    | with_reducible exact h10
    | (simp only [zk_lt, zk_le, zlt_m1, zlt_0, zlt_1, zlt_2, zlt_3, zlt_4, zlt_5, zlt_6, zlt_7, zlt_8, zlt_9, zlt_10, zlt_15, zlt_16, zlt_20, zlt_24, zlt_30, zlt_36, zlt_39, zlt_40, zlt_50, zlt_72, zlt_100, zlt_199, zlt_200, zlt_215, zlt_216, zlt_255, zlt_256, zlt_1000, zlt_9999, zlt_65535, zlt_1000000000, Int.lt_iff_add_one_le, zti_ite, zb_0, Decidable.not_not, zif_x1, zif_x2, zif_x3, zif_1x, zif_2x, zif_3x, zite_an, and_assoc, ite_self, not_false_eq_true, not_true_eq_false, Nat.reduceEqDiff, reduceIte, true_and, and_true, false_and, and_false, ite_true, ite_false]; done)
    | (simp only [zk_lt, zk_le, zlt_m1, zlt_0, zlt_1, zlt_2, zlt_3, zlt_4, zlt_5, zlt_6, zlt_7, zlt_8, zlt_9, zlt_10, zlt_15, zlt_16, zlt_20, zlt_24, zlt_30, zlt_36, zlt_39, zlt_40, zlt_50, zlt_72, zlt_100, zlt_199, zlt_200, zlt_215, zlt_216, zlt_255, zlt_256, zlt_1000, zlt_9999, zlt_65535, zlt_1000000000, Int.lt_iff_add_one_le, zti_ite, zb_0, Decidable.not_not, zif_x1, zif_x2, zif_x3, zif_1x, zif_2x, zif_3x, zite_an, and_assoc, ite_self, not_false_eq_true, not_true_eq_false, Nat.reduceEqDiff, reduceIte, true_and, and_true, false_and, and_false, ite_true, ite_false]; with_reducible exact h10)
    | grind [zb]
  · (try simp only [F227, F328_0_148, F90, G227, G328_0_148, G90, M6, zup2, zup1, zite2, zite1, upd_r, K95_1, K95_r, K214_1, K214_r, zcO_of, zgO_83, zCnt_83, (zSeal_cl h).1, (zSeal_cl h).2.1, (zSeal_cl h).2.2, G87_1_0, G87_1_1, G87_1_2, G87_1_5, G87_1_6, G87_1_7, G87_1_8, G87_1_9, G87_1_10, G87_15, G216_13_0, G216_13_2, G216_13_3, G216_13_4, G216_13_5, G216_13_9, G216_13_10, G216_13_11, G216_13_12, G216_82, G216_83, q_1_0 h, q_1_1 h, q_1_2 h, q_1_6 h, q_1_7 h, q_1_8 h, q_1_9 h, q_1_10 h, q_14 h, ite_self, not_false_eq_true, not_true_eq_false, Nat.reduceEqDiff, reduceIte, true_and, and_true, false_and, and_false, ite_true, ite_false])
    first
    | done
    | with_reducible exact h11
    | (simp only [zk_lt, zk_le, zlt_m1, zlt_0, zlt_1, zlt_2, zlt_3, zlt_4, zlt_5, zlt_6, zlt_7, zlt_8, zlt_9, zlt_10, zlt_15, zlt_16, zlt_20, zlt_24, zlt_30, zlt_36, zlt_39, zlt_40, zlt_50, zlt_72, zlt_100, zlt_199, zlt_200, zlt_215, zlt_216, zlt_255, zlt_256, zlt_1000, zlt_9999, zlt_65535, zlt_1000000000, Int.lt_iff_add_one_le, zti_ite, zb_0, Decidable.not_not, zif_x1, zif_x2, zif_x3, zif_1x, zif_2x, zif_3x, zite_an, and_assoc, ite_self, not_false_eq_true, not_true_eq_false, Nat.reduceEqDiff, reduceIte, true_and, and_true, false_and, and_false, ite_true, ite_false]; done)
    | (simp only [zk_lt, zk_le, zlt_m1, zlt_0, zlt_1, zlt_2, zlt_3, zlt_4, zlt_5, zlt_6, zlt_7, zlt_8, zlt_9, zlt_10, zlt_15, zlt_16, zlt_20, zlt_24, zlt_30, zlt_36, zlt_39, zlt_40, zlt_50, zlt_72, zlt_100, zlt_199, zlt_200, zlt_215, zlt_216, zlt_255, zlt_256, zlt_1000, zlt_9999, zlt_65535, zlt_1000000000, Int.lt_iff_add_one_le, zti_ite, zb_0, Decidable.not_not, zif_x1, zif_x2, zif_x3, zif_1x, zif_2x, zif_3x, zite_an, and_assoc, ite_self, not_false_eq_true, not_true_eq_false, Nat.reduceEqDiff, reduceIte, true_and, and_true, false_and, and_false, ite_true, ite_false]; with_reducible exact h11)
    | grind [zb]
  · (try simp only [F227, F328_0_148, F90, G227, G328_0_148, G90, M6, zup2, zup1, zite2, zite1, upd_r, K95_1, K95_r, K214_1, K214_r, zcO_of, zgO_83, zCnt_83, (zSeal_cl h).1, (zSeal_cl h).2.1, (zSeal_cl h).2.2, G87_1_0, G87_1_1, G87_1_2, G87_1_5, G87_1_6, G87_1_7, G87_1_8, G87_1_9, G87_1_10, G87_15, G216_13_0, G216_13_2, G216_13_3, G216_13_4, G216_13_5, G216_13_9, G216_13_10, G216_13_11, G216_13_12, G216_82, G216_83, q_1_0 h, q_1_1 h, q_1_2 h, q_1_6 h, q_1_7 h, q_1_8 h, q_1_9 h, q_1_10 h, q_14 h, ite_self, not_false_eq_true, not_true_eq_false, Nat.reduceEqDiff, reduceIte, true_and, and_true, false_and, and_false, ite_true, ite_false])
    first
    | done
    | with_reducible exact h12
    | (simp only [zk_lt, zk_le, zlt_m1, zlt_0, zlt_1, zlt_2, zlt_3, zlt_4, zlt_5, zlt_6, zlt_7, zlt_8, zlt_9, zlt_10, zlt_15, zlt_16, zlt_20, zlt_24, zlt_30, zlt_36, zlt_39, zlt_40, zlt_50, zlt_72, zlt_100, zlt_199, zlt_200, zlt_215, zlt_216, zlt_255, zlt_256, zlt_1000, zlt_9999, zlt_65535, zlt_1000000000, Int.lt_iff_add_one_le, zti_ite, zb_0, Decidable.not_not, zif_x1, zif_x2, zif_x3, zif_1x, zif_2x, zif_3x, zite_an, and_assoc, ite_self, not_false_eq_true, not_true_eq_false, Nat.reduceEqDiff, reduceIte, true_and, and_true, false_and, and_false, ite_true, ite_false]; done)
    | (simp only [zk_lt, zk_le, zlt_m1, zlt_0, zlt_1, zlt_2, zlt_3, zlt_4, zlt_5, zlt_6, zlt_7, zlt_8, zlt_9, zlt_10, zlt_15, zlt_16, zlt_20, zlt_24, zlt_30, zlt_36, zlt_39, zlt_40, zlt_50, zlt_72, zlt_100, zlt_199, zlt_200, zlt_215, zlt_216, zlt_255, zlt_256, zlt_1000, zlt_9999, zlt_65535, zlt_1000000000, Int.lt_iff_add_one_le, zti_ite, zb_0, Decidable.not_not, zif_x1, zif_x2, zif_x3, zif_1x, zif_2x, zif_3x, zite_an, and_assoc, ite_self, not_false_eq_true, not_true_eq_false, Nat.reduceEqDiff, reduceIte, true_and, and_true, false_and, and_false, ite_true, ite_false]; with_reducible exact h12)
    | (intro j; have hj := h12 j; simp only [zk_lt, zk_le, zlt_m1, zlt_0, zlt_1, zlt_2, zlt_3, zlt_4, zlt_5, zlt_6, zlt_7, zlt_8, zlt_9, zlt_10, zlt_15, zlt_16, zlt_20, zlt_24, zlt_30, zlt_36, zlt_39, zlt_40, zlt_50, zlt_72, zlt_100, zlt_199, zlt_200, zlt_215, zlt_216, zlt_255, zlt_256, zlt_1000, zlt_9999, zlt_65535, zlt_1000000000, Int.lt_iff_add_one_le, zti_ite, zb_0, Decidable.not_not, zif_x1, zif_x2, zif_x3, zif_1x, zif_2x, zif_3x, zite_an, and_assoc, ite_self, not_false_eq_true, not_true_eq_false, Nat.reduceEqDiff, reduceIte, true_and, and_true, false_and, and_false, ite_true, ite_false] at hj ⊢; grind [zb, zo, zn]) | (intro j; have hj := h12 j; grind [zb, zo, zn]) | (intro j; have hj := h12 j; (repeat' split) <;> first | exact hj | grind [zb, zo, zn, zlt_m1]) | grind [zb]
  · (try simp only [F227, F328_0_148, F90, G227, G328_0_148, G90, M6, zup2, zup1, zite2, zite1, upd_r, K95_1, K95_r, K214_1, K214_r, zcO_of, zgO_83, zCnt_83, (zSeal_cl h).1, (zSeal_cl h).2.1, (zSeal_cl h).2.2, G87_1_0, G87_1_1, G87_1_2, G87_1_5, G87_1_6, G87_1_7, G87_1_8, G87_1_9, G87_1_10, G87_15, G216_13_0, G216_13_2, G216_13_3, G216_13_4, G216_13_5, G216_13_9, G216_13_10, G216_13_11, G216_13_12, G216_82, G216_83, q_1_0 h, q_1_1 h, q_1_2 h, q_1_6 h, q_1_7 h, q_1_8 h, q_1_9 h, q_1_10 h, q_14 h, ite_self, not_false_eq_true, not_true_eq_false, Nat.reduceEqDiff, reduceIte, true_and, and_true, false_and, and_false, ite_true, ite_false])
    first
    | done
    | with_reducible exact h13
    | (simp only [zk_lt, zk_le, zlt_m1, zlt_0, zlt_1, zlt_2, zlt_3, zlt_4, zlt_5, zlt_6, zlt_7, zlt_8, zlt_9, zlt_10, zlt_15, zlt_16, zlt_20, zlt_24, zlt_30, zlt_36, zlt_39, zlt_40, zlt_50, zlt_72, zlt_100, zlt_199, zlt_200, zlt_215, zlt_216, zlt_255, zlt_256, zlt_1000, zlt_9999, zlt_65535, zlt_1000000000, Int.lt_iff_add_one_le, zti_ite, zb_0, Decidable.not_not, zif_x1, zif_x2, zif_x3, zif_1x, zif_2x, zif_3x, zite_an, and_assoc, ite_self, not_false_eq_true, not_true_eq_false, Nat.reduceEqDiff, reduceIte, true_and, and_true, false_and, and_false, ite_true, ite_false]; done)
    | (simp only [zk_lt, zk_le, zlt_m1, zlt_0, zlt_1, zlt_2, zlt_3, zlt_4, zlt_5, zlt_6, zlt_7, zlt_8, zlt_9, zlt_10, zlt_15, zlt_16, zlt_20, zlt_24, zlt_30, zlt_36, zlt_39, zlt_40, zlt_50, zlt_72, zlt_100, zlt_199, zlt_200, zlt_215, zlt_216, zlt_255, zlt_256, zlt_1000, zlt_9999, zlt_65535, zlt_1000000000, Int.lt_iff_add_one_le, zti_ite, zb_0, Decidable.not_not, zif_x1, zif_x2, zif_x3, zif_1x, zif_2x, zif_3x, zite_an, and_assoc, ite_self, not_false_eq_true, not_true_eq_false, Nat.reduceEqDiff, reduceIte, true_and, and_true, false_and, and_false, ite_true, ite_false]; with_reducible exact h13)
    | grind [zb]
  · (try simp only [F227, F328_0_148, F90, G227, G328_0_148, G90, M6, zup2, zup1, zite2, zite1, upd_r, K95_1, K95_r, K214_1, K214_r, zcO_of, zgO_83, zCnt_83, (zSeal_cl h).1, (zSeal_cl h).2.1, (zSeal_cl h).2.2, G87_1_0, G87_1_1, G87_1_2, G87_1_5, G87_1_6, G87_1_7, G87_1_8, G87_1_9, G87_1_10, G87_15, G216_13_0, G216_13_2, G216_13_3, G216_13_4, G216_13_5, G216_13_9, G216_13_10, G216_13_11, G216_13_12, G216_82, G216_83, q_1_0 h, q_1_1 h, q_1_2 h, q_1_6 h, q_1_7 h, q_1_8 h, q_1_9 h, q_1_10 h, q_14 h, ite_self, not_false_eq_true, not_true_eq_false, Nat.reduceEqDiff, reduceIte, true_and, and_true, false_and, and_false, ite_true, ite_false])
    first
    | done
    | with_reducible exact h14
    | (simp only [zk_lt, zk_le, zlt_m1, zlt_0, zlt_1, zlt_2, zlt_3, zlt_4, zlt_5, zlt_6, zlt_7, zlt_8, zlt_9, zlt_10, zlt_15, zlt_16, zlt_20, zlt_24, zlt_30, zlt_36, zlt_39, zlt_40, zlt_50, zlt_72, zlt_100, zlt_199, zlt_200, zlt_215, zlt_216, zlt_255, zlt_256, zlt_1000, zlt_9999, zlt_65535, zlt_1000000000, Int.lt_iff_add_one_le, zti_ite, zb_0, Decidable.not_not, zif_x1, zif_x2, zif_x3, zif_1x, zif_2x, zif_3x, zite_an, and_assoc, ite_self, not_false_eq_true, not_true_eq_false, Nat.reduceEqDiff, reduceIte, true_and, and_true, false_and, and_false, ite_true, ite_false]; done)
    | (simp only [zk_lt, zk_le, zlt_m1, zlt_0, zlt_1, zlt_2, zlt_3, zlt_4, zlt_5, zlt_6, zlt_7, zlt_8, zlt_9, zlt_10, zlt_15, zlt_16, zlt_20, zlt_24, zlt_30, zlt_36, zlt_39, zlt_40, zlt_50, zlt_72, zlt_100, zlt_199, zlt_200, zlt_215, zlt_216, zlt_255, zlt_256, zlt_1000, zlt_9999, zlt_65535, zlt_1000000000, Int.lt_iff_add_one_le, zti_ite, zb_0, Decidable.not_not, zif_x1, zif_x2, zif_x3, zif_1x, zif_2x, zif_3x, zite_an, and_assoc, ite_self, not_false_eq_true, not_true_eq_false, Nat.reduceEqDiff, reduceIte, true_and, and_true, false_and, and_false, ite_true, ite_false]; with_reducible exact h14)
    | (intro j; have hj := h14 j; simp only [zk_lt, zk_le, zlt_m1, zlt_0, zlt_1, zlt_2, zlt_3, zlt_4, zlt_5, zlt_6, zlt_7, zlt_8, zlt_9, zlt_10, zlt_15, zlt_16, zlt_20, zlt_24, zlt_30, zlt_36, zlt_39, zlt_40, zlt_50, zlt_72, zlt_100, zlt_199, zlt_200, zlt_215, zlt_216, zlt_255, zlt_256, zlt_1000, zlt_9999, zlt_65535, zlt_1000000000, Int.lt_iff_add_one_le, zti_ite, zb_0, Decidable.not_not, zif_x1, zif_x2, zif_x3, zif_1x, zif_2x, zif_3x, zite_an, and_assoc, ite_self, not_false_eq_true, not_true_eq_false, Nat.reduceEqDiff, reduceIte, true_and, and_true, false_and, and_false, ite_true, ite_false] at hj ⊢; grind [zb, zo, zn]) | (intro j; have hj := h14 j; grind [zb, zo, zn]) | (intro j; have hj := h14 j; (repeat' split) <;> first | exact hj | grind [zb, zo, zn, zlt_m1]) | grind [zb]
  · (try simp only [F227, F328_0_148, F90, G227, G328_0_148, G90, M6, zup2, zup1, zite2, zite1, upd_r, K95_1, K95_r, K214_1, K214_r, zcO_of, zgO_83, zCnt_83, (zSeal_cl h).1, (zSeal_cl h).2.1, (zSeal_cl h).2.2, G87_1_0, G87_1_1, G87_1_2, G87_1_5, G87_1_6, G87_1_7, G87_1_8, G87_1_9, G87_1_10, G87_15, G216_13_0, G216_13_2, G216_13_3, G216_13_4, G216_13_5, G216_13_9, G216_13_10, G216_13_11, G216_13_12, G216_82, G216_83, q_1_0 h, q_1_1 h, q_1_2 h, q_1_6 h, q_1_7 h, q_1_8 h, q_1_9 h, q_1_10 h, q_14 h, ite_self, not_false_eq_true, not_true_eq_false, Nat.reduceEqDiff, reduceIte, true_and, and_true, false_and, and_false, ite_true, ite_false])
    first
    | done
    | with_reducible exact h15
    | (simp only [zk_lt, zk_le, zlt_m1, zlt_0, zlt_1, zlt_2, zlt_3, zlt_4, zlt_5, zlt_6, zlt_7, zlt_8, zlt_9, zlt_10, zlt_15, zlt_16, zlt_20, zlt_24, zlt_30, zlt_36, zlt_39, zlt_40, zlt_50, zlt_72, zlt_100, zlt_199, zlt_200, zlt_215, zlt_216, zlt_255, zlt_256, zlt_1000, zlt_9999, zlt_65535, zlt_1000000000, Int.lt_iff_add_one_le, zti_ite, zb_0, Decidable.not_not, zif_x1, zif_x2, zif_x3, zif_1x, zif_2x, zif_3x, zite_an, and_assoc, ite_self, not_false_eq_true, not_true_eq_false, Nat.reduceEqDiff, reduceIte, true_and, and_true, false_and, and_false, ite_true, ite_false]; done)
    | (simp only [zk_lt, zk_le, zlt_m1, zlt_0, zlt_1, zlt_2, zlt_3, zlt_4, zlt_5, zlt_6, zlt_7, zlt_8, zlt_9, zlt_10, zlt_15, zlt_16, zlt_20, zlt_24, zlt_30, zlt_36, zlt_39, zlt_40, zlt_50, zlt_72, zlt_100, zlt_199, zlt_200, zlt_215, zlt_216, zlt_255, zlt_256, zlt_1000, zlt_9999, zlt_65535, zlt_1000000000, Int.lt_iff_add_one_le, zti_ite, zb_0, Decidable.not_not, zif_x1, zif_x2, zif_x3, zif_1x, zif_2x, zif_3x, zite_an, and_assoc, ite_self, not_false_eq_true, not_true_eq_false, Nat.reduceEqDiff, reduceIte, true_and, and_true, false_and, and_false, ite_true, ite_false]; with_reducible exact h15)
    | grind [zb]
  · (try simp only [F227, F328_0_148, F90, G227, G328_0_148, G90, M6, zup2, zup1, zite2, zite1, upd_r, K95_1, K95_r, K214_1, K214_r, zcO_of, zgO_83, zCnt_83, (zSeal_cl h).1, (zSeal_cl h).2.1, (zSeal_cl h).2.2, G87_1_0, G87_1_1, G87_1_2, G87_1_5, G87_1_6, G87_1_7, G87_1_8, G87_1_9, G87_1_10, G87_15, G216_13_0, G216_13_2, G216_13_3, G216_13_4, G216_13_5, G216_13_9, G216_13_10, G216_13_11, G216_13_12, G216_82, G216_83, q_1_0 h, q_1_1 h, q_1_2 h, q_1_6 h, q_1_7 h, q_1_8 h, q_1_9 h, q_1_10 h, q_14 h, ite_self, not_false_eq_true, not_true_eq_false, Nat.reduceEqDiff, reduceIte, true_and, and_true, false_and, and_false, ite_true, ite_false])
    first
    | done
    | with_reducible exact h16
    | (simp only [zk_lt, zk_le, zlt_m1, zlt_0, zlt_1, zlt_2, zlt_3, zlt_4, zlt_5, zlt_6, zlt_7, zlt_8, zlt_9, zlt_10, zlt_15, zlt_16, zlt_20, zlt_24, zlt_30, zlt_36, zlt_39, zlt_40, zlt_50, zlt_72, zlt_100, zlt_199, zlt_200, zlt_215, zlt_216, zlt_255, zlt_256, zlt_1000, zlt_9999, zlt_65535, zlt_1000000000, Int.lt_iff_add_one_le, zti_ite, zb_0, Decidable.not_not, zif_x1, zif_x2, zif_x3, zif_1x, zif_2x, zif_3x, zite_an, and_assoc, ite_self, not_false_eq_true, not_true_eq_false, Nat.reduceEqDiff, reduceIte, true_and, and_true, false_and, and_false, ite_true, ite_false]; done)
    | (simp only [zk_lt, zk_le, zlt_m1, zlt_0, zlt_1, zlt_2, zlt_3, zlt_4, zlt_5, zlt_6, zlt_7, zlt_8, zlt_9, zlt_10, zlt_15, zlt_16, zlt_20, zlt_24, zlt_30, zlt_36, zlt_39, zlt_40, zlt_50, zlt_72, zlt_100, zlt_199, zlt_200, zlt_215, zlt_216, zlt_255, zlt_256, zlt_1000, zlt_9999, zlt_65535, zlt_1000000000, Int.lt_iff_add_one_le, zti_ite, zb_0, Decidable.not_not, zif_x1, zif_x2, zif_x3, zif_1x, zif_2x, zif_3x, zite_an, and_assoc, ite_self, not_false_eq_true, not_true_eq_false, Nat.reduceEqDiff, reduceIte, true_and, and_true, false_and, and_false, ite_true, ite_false]; with_reducible exact h16)
    | grind [zb]
  · (try simp only [F227, F328_0_148, F90, G227, G328_0_148, G90, M6, zup2, zup1, zite2, zite1, upd_r, K95_1, K95_r, K214_1, K214_r, zcO_of, zgO_83, zCnt_83, (zSeal_cl h).1, (zSeal_cl h).2.1, (zSeal_cl h).2.2, G87_1_0, G87_1_1, G87_1_2, G87_1_5, G87_1_6, G87_1_7, G87_1_8, G87_1_9, G87_1_10, G87_15, G216_13_0, G216_13_2, G216_13_3, G216_13_4, G216_13_5, G216_13_9, G216_13_10, G216_13_11, G216_13_12, G216_82, G216_83, q_1_0 h, q_1_1 h, q_1_2 h, q_1_6 h, q_1_7 h, q_1_8 h, q_1_9 h, q_1_10 h, q_14 h, ite_self, not_false_eq_true, not_true_eq_false, Nat.reduceEqDiff, reduceIte, true_and, and_true, false_and, and_false, ite_true, ite_false])
    first
    | done
    | with_reducible exact h17
    | (simp only [zk_lt, zk_le, zlt_m1, zlt_0, zlt_1, zlt_2, zlt_3, zlt_4, zlt_5, zlt_6, zlt_7, zlt_8, zlt_9, zlt_10, zlt_15, zlt_16, zlt_20, zlt_24, zlt_30, zlt_36, zlt_39, zlt_40, zlt_50, zlt_72, zlt_100, zlt_199, zlt_200, zlt_215, zlt_216, zlt_255, zlt_256, zlt_1000, zlt_9999, zlt_65535, zlt_1000000000, Int.lt_iff_add_one_le, zti_ite, zb_0, Decidable.not_not, zif_x1, zif_x2, zif_x3, zif_1x, zif_2x, zif_3x, zite_an, and_assoc, ite_self, not_false_eq_true, not_true_eq_false, Nat.reduceEqDiff, reduceIte, true_and, and_true, false_and, and_false, ite_true, ite_false]; done)
    | (simp only [zk_lt, zk_le, zlt_m1, zlt_0, zlt_1, zlt_2, zlt_3, zlt_4, zlt_5, zlt_6, zlt_7, zlt_8, zlt_9, zlt_10, zlt_15, zlt_16, zlt_20, zlt_24, zlt_30, zlt_36, zlt_39, zlt_40, zlt_50, zlt_72, zlt_100, zlt_199, zlt_200, zlt_215, zlt_216, zlt_255, zlt_256, zlt_1000, zlt_9999, zlt_65535, zlt_1000000000, Int.lt_iff_add_one_le, zti_ite, zb_0, Decidable.not_not, zif_x1, zif_x2, zif_x3, zif_1x, zif_2x, zif_3x, zite_an, and_assoc, ite_self, not_false_eq_true, not_true_eq_false, Nat.reduceEqDiff, reduceIte, true_and, and_true, false_and, and_false, ite_true, ite_false]; with_reducible exact h17)
    | grind [zb]
  · (try simp only [F227, F328_0_148, F90, G227, G328_0_148, G90, M6, zup2, zup1, zite2, zite1, upd_r, K95_1, K95_r, K214_1, K214_r, zcO_of, zgO_83, zCnt_83, (zSeal_cl h).1, (zSeal_cl h).2.1, (zSeal_cl h).2.2, G87_1_0, G87_1_1, G87_1_2, G87_1_5, G87_1_6, G87_1_7, G87_1_8, G87_1_9, G87_1_10, G87_15, G216_13_0, G216_13_2, G216_13_3, G216_13_4, G216_13_5, G216_13_9, G216_13_10, G216_13_11, G216_13_12, G216_82, G216_83, q_1_0 h, q_1_1 h, q_1_2 h, q_1_6 h, q_1_7 h, q_1_8 h, q_1_9 h, q_1_10 h, q_14 h, ite_self, not_false_eq_true, not_true_eq_false, Nat.reduceEqDiff, reduceIte, true_and, and_true, false_and, and_false, ite_true, ite_false])
    first
    | done
    | with_reducible exact h18
    | (simp only [zk_lt, zk_le, zlt_m1, zlt_0, zlt_1, zlt_2, zlt_3, zlt_4, zlt_5, zlt_6, zlt_7, zlt_8, zlt_9, zlt_10, zlt_15, zlt_16, zlt_20, zlt_24, zlt_30, zlt_36, zlt_39, zlt_40, zlt_50, zlt_72, zlt_100, zlt_199, zlt_200, zlt_215, zlt_216, zlt_255, zlt_256, zlt_1000, zlt_9999, zlt_65535, zlt_1000000000, Int.lt_iff_add_one_le, zti_ite, zb_0, Decidable.not_not, zif_x1, zif_x2, zif_x3, zif_1x, zif_2x, zif_3x, zite_an, and_assoc, ite_self, not_false_eq_true, not_true_eq_false, Nat.reduceEqDiff, reduceIte, true_and, and_true, false_and, and_false, ite_true, ite_false]; done)
    | (simp only [zk_lt, zk_le, zlt_m1, zlt_0, zlt_1, zlt_2, zlt_3, zlt_4, zlt_5, zlt_6, zlt_7, zlt_8, zlt_9, zlt_10, zlt_15, zlt_16, zlt_20, zlt_24, zlt_30, zlt_36, zlt_39, zlt_40, zlt_50, zlt_72, zlt_100, zlt_199, zlt_200, zlt_215, zlt_216, zlt_255, zlt_256, zlt_1000, zlt_9999, zlt_65535, zlt_1000000000, Int.lt_iff_add_one_le, zti_ite, zb_0, Decidable.not_not, zif_x1, zif_x2, zif_x3, zif_1x, zif_2x, zif_3x, zite_an, and_assoc, ite_self, not_false_eq_true, not_true_eq_false, Nat.reduceEqDiff, reduceIte, true_and, and_true, false_and, and_false, ite_true, ite_false]; with_reducible exact h18)
    | grind [zb]
  · (try simp only [F227, F328_0_148, F90, G227, G328_0_148, G90, M6, zup2, zup1, zite2, zite1, upd_r, K95_1, K95_r, K214_1, K214_r, zcO_of, zgO_83, zCnt_83, (zSeal_cl h).1, (zSeal_cl h).2.1, (zSeal_cl h).2.2, G87_1_0, G87_1_1, G87_1_2, G87_1_5, G87_1_6, G87_1_7, G87_1_8, G87_1_9, G87_1_10, G87_15, G216_13_0, G216_13_2, G216_13_3, G216_13_4, G216_13_5, G216_13_9, G216_13_10, G216_13_11, G216_13_12, G216_82, G216_83, q_1_0 h, q_1_1 h, q_1_2 h, q_1_6 h, q_1_7 h, q_1_8 h, q_1_9 h, q_1_10 h, q_14 h, ite_self, not_false_eq_true, not_true_eq_false, Nat.reduceEqDiff, reduceIte, true_and, and_true, false_and, and_false, ite_true, ite_false])
    first
    | done
    | with_reducible exact h19
    | (simp only [zk_lt, zk_le, zlt_m1, zlt_0, zlt_1, zlt_2, zlt_3, zlt_4, zlt_5, zlt_6, zlt_7, zlt_8, zlt_9, zlt_10, zlt_15, zlt_16, zlt_20, zlt_24, zlt_30, zlt_36, zlt_39, zlt_40, zlt_50, zlt_72, zlt_100, zlt_199, zlt_200, zlt_215, zlt_216, zlt_255, zlt_256, zlt_1000, zlt_9999, zlt_65535, zlt_1000000000, Int.lt_iff_add_one_le, zti_ite, zb_0, Decidable.not_not, zif_x1, zif_x2, zif_x3, zif_1x, zif_2x, zif_3x, zite_an, and_assoc, ite_self, not_false_eq_true, not_true_eq_false, Nat.reduceEqDiff, reduceIte, true_and, and_true, false_and, and_false, ite_true, ite_false]; done)
    | (simp only [zk_lt, zk_le, zlt_m1, zlt_0, zlt_1, zlt_2, zlt_3, zlt_4, zlt_5, zlt_6, zlt_7, zlt_8, zlt_9, zlt_10, zlt_15, zlt_16, zlt_20, zlt_24, zlt_30, zlt_36, zlt_39, zlt_40, zlt_50, zlt_72, zlt_100, zlt_199, zlt_200, zlt_215, zlt_216, zlt_255, zlt_256, zlt_1000, zlt_9999, zlt_65535, zlt_1000000000, Int.lt_iff_add_one_le, zti_ite, zb_0, Decidable.not_not, zif_x1, zif_x2, zif_x3, zif_1x, zif_2x, zif_3x, zite_an, and_assoc, ite_self, not_false_eq_true, not_true_eq_false, Nat.reduceEqDiff, reduceIte, true_and, and_true, false_and, and_false, ite_true, ite_false]; with_reducible exact h19)
    | grind [zb]
  · (try simp only [F227, F328_0_148, F90, G227, G328_0_148, G90, M6, zup2, zup1, zite2, zite1, upd_r, K95_1, K95_r, K214_1, K214_r, zcO_of, zgO_83, zCnt_83, (zSeal_cl h).1, (zSeal_cl h).2.1, (zSeal_cl h).2.2, G87_1_0, G87_1_1, G87_1_2, G87_1_5, G87_1_6, G87_1_7, G87_1_8, G87_1_9, G87_1_10, G87_15, G216_13_0, G216_13_2, G216_13_3, G216_13_4, G216_13_5, G216_13_9, G216_13_10, G216_13_11, G216_13_12, G216_82, G216_83, q_1_0 h, q_1_1 h, q_1_2 h, q_1_6 h, q_1_7 h, q_1_8 h, q_1_9 h, q_1_10 h, q_14 h, ite_self, not_false_eq_true, not_true_eq_false, Nat.reduceEqDiff, reduceIte, true_and, and_true, false_and, and_false, ite_true, ite_false])
    first
    | done
    | with_reducible exact h20
    | (simp only [zk_lt, zk_le, zlt_m1, zlt_0, zlt_1, zlt_2, zlt_3, zlt_4, zlt_5, zlt_6, zlt_7, zlt_8, zlt_9, zlt_10, zlt_15, zlt_16, zlt_20, zlt_24, zlt_30, zlt_36, zlt_39, zlt_40, zlt_50, zlt_72, zlt_100, zlt_199, zlt_200, zlt_215, zlt_216, zlt_255, zlt_256, zlt_1000, zlt_9999, zlt_65535, zlt_1000000000, Int.lt_iff_add_one_le, zti_ite, zb_0, Decidable.not_not, zif_x1, zif_x2, zif_x3, zif_1x, zif_2x, zif_3x, zite_an, and_assoc, ite_self, not_false_eq_true, not_true_eq_false, Nat.reduceEqDiff, reduceIte, true_and, and_true, false_and, and_false, ite_true, ite_false]; done)
    | (simp only [zk_lt, zk_le, zlt_m1, zlt_0, zlt_1, zlt_2, zlt_3, zlt_4, zlt_5, zlt_6, zlt_7, zlt_8, zlt_9, zlt_10, zlt_15, zlt_16, zlt_20, zlt_24, zlt_30, zlt_36, zlt_39, zlt_40, zlt_50, zlt_72, zlt_100, zlt_199, zlt_200, zlt_215, zlt_216, zlt_255, zlt_256, zlt_1000, zlt_9999, zlt_65535, zlt_1000000000, Int.lt_iff_add_one_le, zti_ite, zb_0, Decidable.not_not, zif_x1, zif_x2, zif_x3, zif_1x, zif_2x, zif_3x, zite_an, and_assoc, ite_self, not_false_eq_true, not_true_eq_false, Nat.reduceEqDiff, reduceIte, true_and, and_true, false_and, and_false, ite_true, ite_false]; with_reducible exact h20)
    | (intro j; have hj := h20 j; simp only [zk_lt, zk_le, zlt_m1, zlt_0, zlt_1, zlt_2, zlt_3, zlt_4, zlt_5, zlt_6, zlt_7, zlt_8, zlt_9, zlt_10, zlt_15, zlt_16, zlt_20, zlt_24, zlt_30, zlt_36, zlt_39, zlt_40, zlt_50, zlt_72, zlt_100, zlt_199, zlt_200, zlt_215, zlt_216, zlt_255, zlt_256, zlt_1000, zlt_9999, zlt_65535, zlt_1000000000, Int.lt_iff_add_one_le, zti_ite, zb_0, Decidable.not_not, zif_x1, zif_x2, zif_x3, zif_1x, zif_2x, zif_3x, zite_an, and_assoc, ite_self, not_false_eq_true, not_true_eq_false, Nat.reduceEqDiff, reduceIte, true_and, and_true, false_and, and_false, ite_true, ite_false] at hj ⊢; grind [zb, zo, zn]) | (intro j; have hj := h20 j; grind [zb, zo, zn]) | (intro j; have hj := h20 j; (repeat' split) <;> first | exact hj | grind [zb, zo, zn, zlt_m1]) | grind [zb]

/-! call 17: the class and the reference answer alike (wip/whole/man/17.txt) -/
set_option maxHeartbeats 200000 in
theorem zyr17 {n : Nat} {S T : zS} (q1 : Int32) (q2 : Int32) (q3 : Int32) (hn : n < 512) (h : zR n S T) : ((G248 q1 q2 q3 T) 13 0) = (F337_0_148 q1 q2 q3 S) ∧ ((F337_0_148 q1 q2 q3 S) = 0 → ((G337_0_148 q1 q2 q3 S) 148 0) = (F248 q1 q2 q3 T)) := by
  simp only [F248, F337_0_148, G248, G337_0_148, zup2, zup1, zite2, zite1, upd_r, Int32.mul_comm 6 q1, zb_0, Decidable.not_not, q_24 h, ite_self, not_false_eq_true, not_true_eq_false, Nat.reduceEqDiff, reduceIte, true_and, and_true, false_and, and_false, ite_true, ite_false]
  first
  | done
  | (simp only [zk_lt, zk_le, zlt_m1, zlt_0, zlt_1, zlt_2, zlt_3, zlt_4, zlt_5, zlt_6, zlt_7, zlt_8, zlt_9, zlt_10, zlt_15, zlt_16, zlt_20, zlt_24, zlt_30, zlt_36, zlt_39, zlt_40, zlt_50, zlt_72, zlt_100, zlt_199, zlt_200, zlt_215, zlt_216, zlt_255, zlt_256, zlt_1000, zlt_9999, zlt_65535, zlt_1000000000, Int.lt_iff_add_one_le, zti_ite, zb_0, Decidable.not_not, zif_x1, zif_x2, zif_x3, zif_1x, zif_2x, zif_3x, zite_an, and_assoc, ite_self, not_false_eq_true, not_true_eq_false, Nat.reduceEqDiff, reduceIte, true_and, and_true, false_and, and_false, ite_true, ite_false]; done)
  | (simp only [zk_lt, zk_le, zlt_m1, zlt_0, zlt_1, zlt_2, zlt_3, zlt_4, zlt_5, zlt_6, zlt_7, zlt_8, zlt_9, zlt_10, zlt_15, zlt_16, zlt_20, zlt_24, zlt_30, zlt_36, zlt_39, zlt_40, zlt_50, zlt_72, zlt_100, zlt_199, zlt_200, zlt_215, zlt_216, zlt_255, zlt_256, zlt_1000, zlt_9999, zlt_65535, zlt_1000000000, Int.lt_iff_add_one_le, zti_ite, zb_0, Decidable.not_not, zif_x1, zif_x2, zif_x3, zif_1x, zif_2x, zif_3x, zite_an, and_assoc, ite_self, not_false_eq_true, not_true_eq_false, Nat.reduceEqDiff, reduceIte, true_and, and_true, false_and, and_false, ite_true, ite_false]; grind [zb])
  | grind [zb]
set_option maxHeartbeats 200000 in
theorem zyt17_Ppl {n : Nat} {S T : zS} (q1 : Int32) (q2 : Int32) (q3 : Int32) (hn : n < 512) (h : zR n S T) : zPpl (G337_0_148 q1 q2 q3 S) (M17 q1 q2 q3 T) := by
  have hr := zR_Ppl h
  unfold zPpl at hr ⊢
  obtain ⟨h0, h1, h2, h3, h4, h5, h6⟩ := hr
  refine ⟨?_, ?_, ?_, ?_, ?_, ?_, ?_⟩
  · (try simp only [F248, F337_0_148, G248, G337_0_148, M17, zup2, zup1, zite2, zite1, upd_r, Int32.mul_comm 6 q1, zb_0, Decidable.not_not, q_24 h, q_25 h, q_26 h, q_27 h, q_28 h, q_29 h, ite_self, not_false_eq_true, not_true_eq_false, Nat.reduceEqDiff, reduceIte, true_and, and_true, false_and, and_false, ite_true, ite_false])
    first
    | done
    | with_reducible exact h0
    | (simp only [zk_lt, zk_le, zlt_m1, zlt_0, zlt_1, zlt_2, zlt_3, zlt_4, zlt_5, zlt_6, zlt_7, zlt_8, zlt_9, zlt_10, zlt_15, zlt_16, zlt_20, zlt_24, zlt_30, zlt_36, zlt_39, zlt_40, zlt_50, zlt_72, zlt_100, zlt_199, zlt_200, zlt_215, zlt_216, zlt_255, zlt_256, zlt_1000, zlt_9999, zlt_65535, zlt_1000000000, Int.lt_iff_add_one_le, zti_ite, zb_0, Decidable.not_not, zif_x1, zif_x2, zif_x3, zif_1x, zif_2x, zif_3x, zite_an, and_assoc, ite_self, not_false_eq_true, not_true_eq_false, Nat.reduceEqDiff, reduceIte, true_and, and_true, false_and, and_false, ite_true, ite_false]; done)
    | (simp only [zk_lt, zk_le, zlt_m1, zlt_0, zlt_1, zlt_2, zlt_3, zlt_4, zlt_5, zlt_6, zlt_7, zlt_8, zlt_9, zlt_10, zlt_15, zlt_16, zlt_20, zlt_24, zlt_30, zlt_36, zlt_39, zlt_40, zlt_50, zlt_72, zlt_100, zlt_199, zlt_200, zlt_215, zlt_216, zlt_255, zlt_256, zlt_1000, zlt_9999, zlt_65535, zlt_1000000000, Int.lt_iff_add_one_le, zti_ite, zb_0, Decidable.not_not, zif_x1, zif_x2, zif_x3, zif_1x, zif_2x, zif_3x, zite_an, and_assoc, ite_self, not_false_eq_true, not_true_eq_false, Nat.reduceEqDiff, reduceIte, true_and, and_true, false_and, and_false, ite_true, ite_false]; with_reducible exact h0)
    | grind [zb]
  · (try simp only [F248, F337_0_148, G248, G337_0_148, M17, zup2, zup1, zite2, zite1, upd_r, Int32.mul_comm 6 q1, zb_0, Decidable.not_not, q_24 h, q_25 h, q_26 h, q_27 h, q_28 h, q_29 h, ite_self, not_false_eq_true, not_true_eq_false, Nat.reduceEqDiff, reduceIte, true_and, and_true, false_and, and_false, ite_true, ite_false])
    first
    | done
    | with_reducible exact h1
    | (simp only [zk_lt, zk_le, zlt_m1, zlt_0, zlt_1, zlt_2, zlt_3, zlt_4, zlt_5, zlt_6, zlt_7, zlt_8, zlt_9, zlt_10, zlt_15, zlt_16, zlt_20, zlt_24, zlt_30, zlt_36, zlt_39, zlt_40, zlt_50, zlt_72, zlt_100, zlt_199, zlt_200, zlt_215, zlt_216, zlt_255, zlt_256, zlt_1000, zlt_9999, zlt_65535, zlt_1000000000, Int.lt_iff_add_one_le, zti_ite, zb_0, Decidable.not_not, zif_x1, zif_x2, zif_x3, zif_1x, zif_2x, zif_3x, zite_an, and_assoc, ite_self, not_false_eq_true, not_true_eq_false, Nat.reduceEqDiff, reduceIte, true_and, and_true, false_and, and_false, ite_true, ite_false]; done)
    | (simp only [zk_lt, zk_le, zlt_m1, zlt_0, zlt_1, zlt_2, zlt_3, zlt_4, zlt_5, zlt_6, zlt_7, zlt_8, zlt_9, zlt_10, zlt_15, zlt_16, zlt_20, zlt_24, zlt_30, zlt_36, zlt_39, zlt_40, zlt_50, zlt_72, zlt_100, zlt_199, zlt_200, zlt_215, zlt_216, zlt_255, zlt_256, zlt_1000, zlt_9999, zlt_65535, zlt_1000000000, Int.lt_iff_add_one_le, zti_ite, zb_0, Decidable.not_not, zif_x1, zif_x2, zif_x3, zif_1x, zif_2x, zif_3x, zite_an, and_assoc, ite_self, not_false_eq_true, not_true_eq_false, Nat.reduceEqDiff, reduceIte, true_and, and_true, false_and, and_false, ite_true, ite_false]; with_reducible exact h1)
    | grind [zb]
  · (try simp only [F248, F337_0_148, G248, G337_0_148, M17, zup2, zup1, zite2, zite1, upd_r, Int32.mul_comm 6 q1, zb_0, Decidable.not_not, q_24 h, q_25 h, q_26 h, q_27 h, q_28 h, q_29 h, ite_self, not_false_eq_true, not_true_eq_false, Nat.reduceEqDiff, reduceIte, true_and, and_true, false_and, and_false, ite_true, ite_false])
    first
    | done
    | with_reducible exact h2
    | (simp only [zk_lt, zk_le, zlt_m1, zlt_0, zlt_1, zlt_2, zlt_3, zlt_4, zlt_5, zlt_6, zlt_7, zlt_8, zlt_9, zlt_10, zlt_15, zlt_16, zlt_20, zlt_24, zlt_30, zlt_36, zlt_39, zlt_40, zlt_50, zlt_72, zlt_100, zlt_199, zlt_200, zlt_215, zlt_216, zlt_255, zlt_256, zlt_1000, zlt_9999, zlt_65535, zlt_1000000000, Int.lt_iff_add_one_le, zti_ite, zb_0, Decidable.not_not, zif_x1, zif_x2, zif_x3, zif_1x, zif_2x, zif_3x, zite_an, and_assoc, ite_self, not_false_eq_true, not_true_eq_false, Nat.reduceEqDiff, reduceIte, true_and, and_true, false_and, and_false, ite_true, ite_false]; done)
    | (simp only [zk_lt, zk_le, zlt_m1, zlt_0, zlt_1, zlt_2, zlt_3, zlt_4, zlt_5, zlt_6, zlt_7, zlt_8, zlt_9, zlt_10, zlt_15, zlt_16, zlt_20, zlt_24, zlt_30, zlt_36, zlt_39, zlt_40, zlt_50, zlt_72, zlt_100, zlt_199, zlt_200, zlt_215, zlt_216, zlt_255, zlt_256, zlt_1000, zlt_9999, zlt_65535, zlt_1000000000, Int.lt_iff_add_one_le, zti_ite, zb_0, Decidable.not_not, zif_x1, zif_x2, zif_x3, zif_1x, zif_2x, zif_3x, zite_an, and_assoc, ite_self, not_false_eq_true, not_true_eq_false, Nat.reduceEqDiff, reduceIte, true_and, and_true, false_and, and_false, ite_true, ite_false]; with_reducible exact h2)
    | grind [zb]
  · (try simp only [F248, F337_0_148, G248, G337_0_148, M17, zup2, zup1, zite2, zite1, upd_r, Int32.mul_comm 6 q1, zb_0, Decidable.not_not, q_24 h, q_25 h, q_26 h, q_27 h, q_28 h, q_29 h, ite_self, not_false_eq_true, not_true_eq_false, Nat.reduceEqDiff, reduceIte, true_and, and_true, false_and, and_false, ite_true, ite_false])
    first
    | done
    | with_reducible exact h3
    | (simp only [zk_lt, zk_le, zlt_m1, zlt_0, zlt_1, zlt_2, zlt_3, zlt_4, zlt_5, zlt_6, zlt_7, zlt_8, zlt_9, zlt_10, zlt_15, zlt_16, zlt_20, zlt_24, zlt_30, zlt_36, zlt_39, zlt_40, zlt_50, zlt_72, zlt_100, zlt_199, zlt_200, zlt_215, zlt_216, zlt_255, zlt_256, zlt_1000, zlt_9999, zlt_65535, zlt_1000000000, Int.lt_iff_add_one_le, zti_ite, zb_0, Decidable.not_not, zif_x1, zif_x2, zif_x3, zif_1x, zif_2x, zif_3x, zite_an, and_assoc, ite_self, not_false_eq_true, not_true_eq_false, Nat.reduceEqDiff, reduceIte, true_and, and_true, false_and, and_false, ite_true, ite_false]; done)
    | (simp only [zk_lt, zk_le, zlt_m1, zlt_0, zlt_1, zlt_2, zlt_3, zlt_4, zlt_5, zlt_6, zlt_7, zlt_8, zlt_9, zlt_10, zlt_15, zlt_16, zlt_20, zlt_24, zlt_30, zlt_36, zlt_39, zlt_40, zlt_50, zlt_72, zlt_100, zlt_199, zlt_200, zlt_215, zlt_216, zlt_255, zlt_256, zlt_1000, zlt_9999, zlt_65535, zlt_1000000000, Int.lt_iff_add_one_le, zti_ite, zb_0, Decidable.not_not, zif_x1, zif_x2, zif_x3, zif_1x, zif_2x, zif_3x, zite_an, and_assoc, ite_self, not_false_eq_true, not_true_eq_false, Nat.reduceEqDiff, reduceIte, true_and, and_true, false_and, and_false, ite_true, ite_false]; with_reducible exact h3)
    | grind [zb]
  · (try simp only [F248, F337_0_148, G248, G337_0_148, M17, zup2, zup1, zite2, zite1, upd_r, Int32.mul_comm 6 q1, zb_0, Decidable.not_not, q_24 h, q_25 h, q_26 h, q_27 h, q_28 h, q_29 h, ite_self, not_false_eq_true, not_true_eq_false, Nat.reduceEqDiff, reduceIte, true_and, and_true, false_and, and_false, ite_true, ite_false])
    first
    | done
    | with_reducible exact h4
    | (simp only [zk_lt, zk_le, zlt_m1, zlt_0, zlt_1, zlt_2, zlt_3, zlt_4, zlt_5, zlt_6, zlt_7, zlt_8, zlt_9, zlt_10, zlt_15, zlt_16, zlt_20, zlt_24, zlt_30, zlt_36, zlt_39, zlt_40, zlt_50, zlt_72, zlt_100, zlt_199, zlt_200, zlt_215, zlt_216, zlt_255, zlt_256, zlt_1000, zlt_9999, zlt_65535, zlt_1000000000, Int.lt_iff_add_one_le, zti_ite, zb_0, Decidable.not_not, zif_x1, zif_x2, zif_x3, zif_1x, zif_2x, zif_3x, zite_an, and_assoc, ite_self, not_false_eq_true, not_true_eq_false, Nat.reduceEqDiff, reduceIte, true_and, and_true, false_and, and_false, ite_true, ite_false]; done)
    | (simp only [zk_lt, zk_le, zlt_m1, zlt_0, zlt_1, zlt_2, zlt_3, zlt_4, zlt_5, zlt_6, zlt_7, zlt_8, zlt_9, zlt_10, zlt_15, zlt_16, zlt_20, zlt_24, zlt_30, zlt_36, zlt_39, zlt_40, zlt_50, zlt_72, zlt_100, zlt_199, zlt_200, zlt_215, zlt_216, zlt_255, zlt_256, zlt_1000, zlt_9999, zlt_65535, zlt_1000000000, Int.lt_iff_add_one_le, zti_ite, zb_0, Decidable.not_not, zif_x1, zif_x2, zif_x3, zif_1x, zif_2x, zif_3x, zite_an, and_assoc, ite_self, not_false_eq_true, not_true_eq_false, Nat.reduceEqDiff, reduceIte, true_and, and_true, false_and, and_false, ite_true, ite_false]; with_reducible exact h4)
    | grind [zb]
  · (try simp only [F248, F337_0_148, G248, G337_0_148, M17, zup2, zup1, zite2, zite1, upd_r, Int32.mul_comm 6 q1, zb_0, Decidable.not_not, q_24 h, q_25 h, q_26 h, q_27 h, q_28 h, q_29 h, ite_self, not_false_eq_true, not_true_eq_false, Nat.reduceEqDiff, reduceIte, true_and, and_true, false_and, and_false, ite_true, ite_false])
    first
    | done
    | with_reducible exact h5
    | (simp only [zk_lt, zk_le, zlt_m1, zlt_0, zlt_1, zlt_2, zlt_3, zlt_4, zlt_5, zlt_6, zlt_7, zlt_8, zlt_9, zlt_10, zlt_15, zlt_16, zlt_20, zlt_24, zlt_30, zlt_36, zlt_39, zlt_40, zlt_50, zlt_72, zlt_100, zlt_199, zlt_200, zlt_215, zlt_216, zlt_255, zlt_256, zlt_1000, zlt_9999, zlt_65535, zlt_1000000000, Int.lt_iff_add_one_le, zti_ite, zb_0, Decidable.not_not, zif_x1, zif_x2, zif_x3, zif_1x, zif_2x, zif_3x, zite_an, and_assoc, ite_self, not_false_eq_true, not_true_eq_false, Nat.reduceEqDiff, reduceIte, true_and, and_true, false_and, and_false, ite_true, ite_false]; done)
    | (simp only [zk_lt, zk_le, zlt_m1, zlt_0, zlt_1, zlt_2, zlt_3, zlt_4, zlt_5, zlt_6, zlt_7, zlt_8, zlt_9, zlt_10, zlt_15, zlt_16, zlt_20, zlt_24, zlt_30, zlt_36, zlt_39, zlt_40, zlt_50, zlt_72, zlt_100, zlt_199, zlt_200, zlt_215, zlt_216, zlt_255, zlt_256, zlt_1000, zlt_9999, zlt_65535, zlt_1000000000, Int.lt_iff_add_one_le, zti_ite, zb_0, Decidable.not_not, zif_x1, zif_x2, zif_x3, zif_1x, zif_2x, zif_3x, zite_an, and_assoc, ite_self, not_false_eq_true, not_true_eq_false, Nat.reduceEqDiff, reduceIte, true_and, and_true, false_and, and_false, ite_true, ite_false]; with_reducible exact h5)
    | grind [zb]
  · simp only [F248, F337_0_148, G248, G337_0_148, M17, zup2, zup1, zite2, zite1, upd_r, Int32.mul_comm 6 q1, zb_0, Decidable.not_not, q_24 h, q_25 h, q_26 h, q_27 h, q_28 h, q_29 h, ite_self, not_false_eq_true, not_true_eq_false, Nat.reduceEqDiff, reduceIte, true_and, and_true, false_and, and_false, ite_true, ite_false]
    intro j hj; have hk := h6 j hj; clear h6
    (repeat' split) <;> first | exact hk | (simp only [zk_lt, zk_le, zlt_m1, zlt_0, zlt_1, zlt_2, zlt_3, zlt_4, zlt_5, zlt_6, zlt_7, zlt_8, zlt_9, zlt_10, zlt_15, zlt_16, zlt_20, zlt_24, zlt_30, zlt_36, zlt_39, zlt_40, zlt_50, zlt_72, zlt_100, zlt_199, zlt_200, zlt_215, zlt_216, zlt_255, zlt_256, zlt_1000, zlt_9999, zlt_65535, zlt_1000000000, Int.lt_iff_add_one_le, zti_ite, zb_0, Decidable.not_not, zif_x1, zif_x2, zif_x3, zif_1x, zif_2x, zif_3x, zite_an, and_assoc, ite_self, not_false_eq_true, not_true_eq_false, Nat.reduceEqDiff, reduceIte, true_and, and_true, false_and, and_false, ite_true, ite_false] at *; grind [zlt_m1])

/-! call 20: the class and the reference answer alike (wip/whole/man/20.txt) -/
set_option maxHeartbeats 200000 in
theorem zyr20 {n : Nat} {S T : zS} (q1 : Int32) (q2 : Int32) (hn : n < 512) (h : zR n S T) : ((G261 q1 q2 T) 13 0) = (F340_0_148 q1 q2 S) ∧ ((F340_0_148 q1 q2 S) = 0 → ((G340_0_148 q1 q2 S) 148 0) = (F261 q1 q2 T)) := by
  have hk := i_Tok_10 h
  simp only [F261, F340_0_148, G122, G260, G261, G340_0_148, zup2, zup1, zite2, zite1, upd_r, Int32.mul_comm 6 q1, zeq_top hk zlt_40, Int32.add_sub_cancel, q_0_11 h, q_1_6 h, q_24 h, q_25 h, q_5_0 h, q_30 h, ite_self, not_false_eq_true, not_true_eq_false, Nat.reduceEqDiff, reduceIte, true_and, and_true, false_and, and_false, ite_true, ite_false]
  first
  | done
  | (simp only [zk_lt, zk_le, zlt_m1, zlt_0, zlt_1, zlt_2, zlt_3, zlt_4, zlt_5, zlt_6, zlt_7, zlt_8, zlt_9, zlt_10, zlt_15, zlt_16, zlt_20, zlt_24, zlt_30, zlt_36, zlt_39, zlt_40, zlt_50, zlt_72, zlt_100, zlt_199, zlt_200, zlt_215, zlt_216, zlt_255, zlt_256, zlt_1000, zlt_9999, zlt_65535, zlt_1000000000, Int.lt_iff_add_one_le, zti_ite, zb_0, Decidable.not_not, zif_x1, zif_x2, zif_x3, zif_1x, zif_2x, zif_3x, zite_an, and_assoc, ite_self, not_false_eq_true, not_true_eq_false, Nat.reduceEqDiff, reduceIte, true_and, and_true, false_and, and_false, ite_true, ite_false]; done)
  | (simp only [zk_lt, zk_le, zlt_m1, zlt_0, zlt_1, zlt_2, zlt_3, zlt_4, zlt_5, zlt_6, zlt_7, zlt_8, zlt_9, zlt_10, zlt_15, zlt_16, zlt_20, zlt_24, zlt_30, zlt_36, zlt_39, zlt_40, zlt_50, zlt_72, zlt_100, zlt_199, zlt_200, zlt_215, zlt_216, zlt_255, zlt_256, zlt_1000, zlt_9999, zlt_65535, zlt_1000000000, Int.lt_iff_add_one_le, zti_ite, zb_0, Decidable.not_not, zif_x1, zif_x2, zif_x3, zif_1x, zif_2x, zif_3x, zite_an, and_assoc, ite_self, not_false_eq_true, not_true_eq_false, Nat.reduceEqDiff, reduceIte, true_and, and_true, false_and, and_false, ite_true, ite_false]; grind [zb])
  | grind [zb]
set_option maxHeartbeats 200000 in
theorem zyt20_Tok {n : Nat} {S T : zS} (q1 : Int32) (q2 : Int32) (hn : n < 512) (h : zR n S T) : zTok (G340_0_148 q1 q2 S) (M20 q1 q2 T) := by
  have hr := zR_Tok h
  unfold zTok at hr ⊢
  obtain ⟨h0, h1, h2, h3, h4, h5, h6, h7, h8, h9, h10, h11, h12, h13, h14, h15, h16, h17, h18, h19⟩ := hr
  have hu : upd (T 119) (T 13 45).toNatClampNeg 0 = T 119 := zupd_s _ _ _ (h15 _ (Nat.le_refl _))
  have hc : T 13 45 < 40 → (T 13 45 + 1).toInt = (T 13 45).toInt + 1 ∧ (T 13 45 + 1).toNatClampNeg = (T 13 45).toNatClampNeg + 1 ∧ ((T 13 45).toNatClampNeg : Int) = (T 13 45).toInt ∧ (T 13 45).toInt < 40 := by
    intro e
    rw [zk_lt, zlt_40] at e
    have hk := h10
    unfold zn at hk
    have e1 : (T 13 45 + 1).toInt = (T 13 45).toInt + 1 := by rw [zk_tadd (by rw [zk_1]; omega) (by rw [zk_1]; omega), zk_1]
    have e2 := zk_nat (x := T 13 45) (by omega)
    have e3 := zk_nat (x := T 13 45 + 1) (by omega)
    omega
  refine ⟨?_, ?_, ?_, ?_, ?_, ?_, ?_, ?_, ?_, ?_, ?_, ?_, ?_, ?_, ?_, ?_, ?_, ?_, ?_, ?_⟩
  · (try simp only [F261, F340_0_148, G122, G260, G261, G340_0_148, M20, zup2, zup1, zite2, zite1, upd_r, Int32.mul_comm 6 q1, zeq_top h10 zlt_40, Int32.add_sub_cancel, q_0_11 h, q_1_6 h, q_24 h, q_25 h, q_5_0 h, q_30 h, q_31 h, q_32 h, q_33 h, q_34 h, q_37 h, q_38 h, q_39 h, q_40 h, ite_self, not_false_eq_true, not_true_eq_false, Nat.reduceEqDiff, reduceIte, true_and, and_true, false_and, and_false, ite_true, ite_false])
    first
    | done
    | with_reducible exact h0
    | (simp only [zk_lt, zk_le, zlt_m1, zlt_0, zlt_1, zlt_2, zlt_3, zlt_4, zlt_5, zlt_6, zlt_7, zlt_8, zlt_9, zlt_10, zlt_15, zlt_16, zlt_20, zlt_24, zlt_30, zlt_36, zlt_39, zlt_40, zlt_50, zlt_72, zlt_100, zlt_199, zlt_200, zlt_215, zlt_216, zlt_255, zlt_256, zlt_1000, zlt_9999, zlt_65535, zlt_1000000000, Int.lt_iff_add_one_le, zti_ite, zb_0, Decidable.not_not, zif_x1, zif_x2, zif_x3, zif_1x, zif_2x, zif_3x, zite_an, and_assoc, ite_self, not_false_eq_true, not_true_eq_false, Nat.reduceEqDiff, reduceIte, true_and, and_true, false_and, and_false, ite_true, ite_false]; done)
    | (simp only [zk_lt, zk_le, zlt_m1, zlt_0, zlt_1, zlt_2, zlt_3, zlt_4, zlt_5, zlt_6, zlt_7, zlt_8, zlt_9, zlt_10, zlt_15, zlt_16, zlt_20, zlt_24, zlt_30, zlt_36, zlt_39, zlt_40, zlt_50, zlt_72, zlt_100, zlt_199, zlt_200, zlt_215, zlt_216, zlt_255, zlt_256, zlt_1000, zlt_9999, zlt_65535, zlt_1000000000, Int.lt_iff_add_one_le, zti_ite, zb_0, Decidable.not_not, zif_x1, zif_x2, zif_x3, zif_1x, zif_2x, zif_3x, zite_an, and_assoc, ite_self, not_false_eq_true, not_true_eq_false, Nat.reduceEqDiff, reduceIte, true_and, and_true, false_and, and_false, ite_true, ite_false]; with_reducible exact h0)
    | grind [zb]
  · (try simp only [F261, F340_0_148, G122, G260, G261, G340_0_148, M20, zup2, zup1, zite2, zite1, upd_r, Int32.mul_comm 6 q1, zeq_top h10 zlt_40, Int32.add_sub_cancel, q_0_11 h, q_1_6 h, q_24 h, q_25 h, q_5_0 h, q_30 h, q_31 h, q_32 h, q_33 h, q_34 h, q_37 h, q_38 h, q_39 h, q_40 h, ite_self, not_false_eq_true, not_true_eq_false, Nat.reduceEqDiff, reduceIte, true_and, and_true, false_and, and_false, ite_true, ite_false])
    first
    | done
    | with_reducible exact h1
    | (simp only [zk_lt, zk_le, zlt_m1, zlt_0, zlt_1, zlt_2, zlt_3, zlt_4, zlt_5, zlt_6, zlt_7, zlt_8, zlt_9, zlt_10, zlt_15, zlt_16, zlt_20, zlt_24, zlt_30, zlt_36, zlt_39, zlt_40, zlt_50, zlt_72, zlt_100, zlt_199, zlt_200, zlt_215, zlt_216, zlt_255, zlt_256, zlt_1000, zlt_9999, zlt_65535, zlt_1000000000, Int.lt_iff_add_one_le, zti_ite, zb_0, Decidable.not_not, zif_x1, zif_x2, zif_x3, zif_1x, zif_2x, zif_3x, zite_an, and_assoc, ite_self, not_false_eq_true, not_true_eq_false, Nat.reduceEqDiff, reduceIte, true_and, and_true, false_and, and_false, ite_true, ite_false]; done)
    | (simp only [zk_lt, zk_le, zlt_m1, zlt_0, zlt_1, zlt_2, zlt_3, zlt_4, zlt_5, zlt_6, zlt_7, zlt_8, zlt_9, zlt_10, zlt_15, zlt_16, zlt_20, zlt_24, zlt_30, zlt_36, zlt_39, zlt_40, zlt_50, zlt_72, zlt_100, zlt_199, zlt_200, zlt_215, zlt_216, zlt_255, zlt_256, zlt_1000, zlt_9999, zlt_65535, zlt_1000000000, Int.lt_iff_add_one_le, zti_ite, zb_0, Decidable.not_not, zif_x1, zif_x2, zif_x3, zif_1x, zif_2x, zif_3x, zite_an, and_assoc, ite_self, not_false_eq_true, not_true_eq_false, Nat.reduceEqDiff, reduceIte, true_and, and_true, false_and, and_false, ite_true, ite_false]; with_reducible exact h1)
    | grind [zb]
  · (try simp only [F261, F340_0_148, G122, G260, G261, G340_0_148, M20, zup2, zup1, zite2, zite1, upd_r, Int32.mul_comm 6 q1, zeq_top h10 zlt_40, Int32.add_sub_cancel, q_0_11 h, q_1_6 h, q_24 h, q_25 h, q_5_0 h, q_30 h, q_31 h, q_32 h, q_33 h, q_34 h, q_37 h, q_38 h, q_39 h, q_40 h, ite_self, not_false_eq_true, not_true_eq_false, Nat.reduceEqDiff, reduceIte, true_and, and_true, false_and, and_false, ite_true, ite_false])
    first
    | done
    | with_reducible exact h2
    | (simp only [zk_lt, zk_le, zlt_m1, zlt_0, zlt_1, zlt_2, zlt_3, zlt_4, zlt_5, zlt_6, zlt_7, zlt_8, zlt_9, zlt_10, zlt_15, zlt_16, zlt_20, zlt_24, zlt_30, zlt_36, zlt_39, zlt_40, zlt_50, zlt_72, zlt_100, zlt_199, zlt_200, zlt_215, zlt_216, zlt_255, zlt_256, zlt_1000, zlt_9999, zlt_65535, zlt_1000000000, Int.lt_iff_add_one_le, zti_ite, zb_0, Decidable.not_not, zif_x1, zif_x2, zif_x3, zif_1x, zif_2x, zif_3x, zite_an, and_assoc, ite_self, not_false_eq_true, not_true_eq_false, Nat.reduceEqDiff, reduceIte, true_and, and_true, false_and, and_false, ite_true, ite_false]; done)
    | (simp only [zk_lt, zk_le, zlt_m1, zlt_0, zlt_1, zlt_2, zlt_3, zlt_4, zlt_5, zlt_6, zlt_7, zlt_8, zlt_9, zlt_10, zlt_15, zlt_16, zlt_20, zlt_24, zlt_30, zlt_36, zlt_39, zlt_40, zlt_50, zlt_72, zlt_100, zlt_199, zlt_200, zlt_215, zlt_216, zlt_255, zlt_256, zlt_1000, zlt_9999, zlt_65535, zlt_1000000000, Int.lt_iff_add_one_le, zti_ite, zb_0, Decidable.not_not, zif_x1, zif_x2, zif_x3, zif_1x, zif_2x, zif_3x, zite_an, and_assoc, ite_self, not_false_eq_true, not_true_eq_false, Nat.reduceEqDiff, reduceIte, true_and, and_true, false_and, and_false, ite_true, ite_false]; with_reducible exact h2)
    | grind [zb]
  · (try simp only [F261, F340_0_148, G122, G260, G261, G340_0_148, M20, zup2, zup1, zite2, zite1, upd_r, Int32.mul_comm 6 q1, zeq_top h10 zlt_40, Int32.add_sub_cancel, q_0_11 h, q_1_6 h, q_24 h, q_25 h, q_5_0 h, q_30 h, q_31 h, q_32 h, q_33 h, q_34 h, q_37 h, q_38 h, q_39 h, q_40 h, ite_self, not_false_eq_true, not_true_eq_false, Nat.reduceEqDiff, reduceIte, true_and, and_true, false_and, and_false, ite_true, ite_false])
    first
    | done
    | with_reducible exact h3
    | (simp only [zk_lt, zk_le, zlt_m1, zlt_0, zlt_1, zlt_2, zlt_3, zlt_4, zlt_5, zlt_6, zlt_7, zlt_8, zlt_9, zlt_10, zlt_15, zlt_16, zlt_20, zlt_24, zlt_30, zlt_36, zlt_39, zlt_40, zlt_50, zlt_72, zlt_100, zlt_199, zlt_200, zlt_215, zlt_216, zlt_255, zlt_256, zlt_1000, zlt_9999, zlt_65535, zlt_1000000000, Int.lt_iff_add_one_le, zti_ite, zb_0, Decidable.not_not, zif_x1, zif_x2, zif_x3, zif_1x, zif_2x, zif_3x, zite_an, and_assoc, ite_self, not_false_eq_true, not_true_eq_false, Nat.reduceEqDiff, reduceIte, true_and, and_true, false_and, and_false, ite_true, ite_false]; done)
    | (simp only [zk_lt, zk_le, zlt_m1, zlt_0, zlt_1, zlt_2, zlt_3, zlt_4, zlt_5, zlt_6, zlt_7, zlt_8, zlt_9, zlt_10, zlt_15, zlt_16, zlt_20, zlt_24, zlt_30, zlt_36, zlt_39, zlt_40, zlt_50, zlt_72, zlt_100, zlt_199, zlt_200, zlt_215, zlt_216, zlt_255, zlt_256, zlt_1000, zlt_9999, zlt_65535, zlt_1000000000, Int.lt_iff_add_one_le, zti_ite, zb_0, Decidable.not_not, zif_x1, zif_x2, zif_x3, zif_1x, zif_2x, zif_3x, zite_an, and_assoc, ite_self, not_false_eq_true, not_true_eq_false, Nat.reduceEqDiff, reduceIte, true_and, and_true, false_and, and_false, ite_true, ite_false]; with_reducible exact h3)
    | grind [zb]
  · (try simp only [F261, F340_0_148, G122, G260, G261, G340_0_148, M20, zup2, zup1, zite2, zite1, upd_r, Int32.mul_comm 6 q1, zeq_top h10 zlt_40, Int32.add_sub_cancel, q_0_11 h, q_1_6 h, q_24 h, q_25 h, q_5_0 h, q_30 h, q_31 h, q_32 h, q_33 h, q_34 h, q_37 h, q_38 h, q_39 h, q_40 h, ite_self, not_false_eq_true, not_true_eq_false, Nat.reduceEqDiff, reduceIte, true_and, and_true, false_and, and_false, ite_true, ite_false])
    first
    | done
    | with_reducible exact h4
    | (simp only [zk_lt, zk_le, zlt_m1, zlt_0, zlt_1, zlt_2, zlt_3, zlt_4, zlt_5, zlt_6, zlt_7, zlt_8, zlt_9, zlt_10, zlt_15, zlt_16, zlt_20, zlt_24, zlt_30, zlt_36, zlt_39, zlt_40, zlt_50, zlt_72, zlt_100, zlt_199, zlt_200, zlt_215, zlt_216, zlt_255, zlt_256, zlt_1000, zlt_9999, zlt_65535, zlt_1000000000, Int.lt_iff_add_one_le, zti_ite, zb_0, Decidable.not_not, zif_x1, zif_x2, zif_x3, zif_1x, zif_2x, zif_3x, zite_an, and_assoc, ite_self, not_false_eq_true, not_true_eq_false, Nat.reduceEqDiff, reduceIte, true_and, and_true, false_and, and_false, ite_true, ite_false]; done)
    | (simp only [zk_lt, zk_le, zlt_m1, zlt_0, zlt_1, zlt_2, zlt_3, zlt_4, zlt_5, zlt_6, zlt_7, zlt_8, zlt_9, zlt_10, zlt_15, zlt_16, zlt_20, zlt_24, zlt_30, zlt_36, zlt_39, zlt_40, zlt_50, zlt_72, zlt_100, zlt_199, zlt_200, zlt_215, zlt_216, zlt_255, zlt_256, zlt_1000, zlt_9999, zlt_65535, zlt_1000000000, Int.lt_iff_add_one_le, zti_ite, zb_0, Decidable.not_not, zif_x1, zif_x2, zif_x3, zif_1x, zif_2x, zif_3x, zite_an, and_assoc, ite_self, not_false_eq_true, not_true_eq_false, Nat.reduceEqDiff, reduceIte, true_and, and_true, false_and, and_false, ite_true, ite_false]; with_reducible exact h4)
    | grind [zb]
  · (try simp only [F261, F340_0_148, G122, G260, G261, G340_0_148, M20, zup2, zup1, zite2, zite1, upd_r, Int32.mul_comm 6 q1, zeq_top h10 zlt_40, Int32.add_sub_cancel, q_0_11 h, q_1_6 h, q_24 h, q_25 h, q_5_0 h, q_30 h, q_31 h, q_32 h, q_33 h, q_34 h, q_37 h, q_38 h, q_39 h, q_40 h, ite_self, not_false_eq_true, not_true_eq_false, Nat.reduceEqDiff, reduceIte, true_and, and_true, false_and, and_false, ite_true, ite_false])
    first
    | done
    | with_reducible exact h5
    | (simp only [zk_lt, zk_le, zlt_m1, zlt_0, zlt_1, zlt_2, zlt_3, zlt_4, zlt_5, zlt_6, zlt_7, zlt_8, zlt_9, zlt_10, zlt_15, zlt_16, zlt_20, zlt_24, zlt_30, zlt_36, zlt_39, zlt_40, zlt_50, zlt_72, zlt_100, zlt_199, zlt_200, zlt_215, zlt_216, zlt_255, zlt_256, zlt_1000, zlt_9999, zlt_65535, zlt_1000000000, Int.lt_iff_add_one_le, zti_ite, zb_0, Decidable.not_not, zif_x1, zif_x2, zif_x3, zif_1x, zif_2x, zif_3x, zite_an, and_assoc, ite_self, not_false_eq_true, not_true_eq_false, Nat.reduceEqDiff, reduceIte, true_and, and_true, false_and, and_false, ite_true, ite_false]; done)
    | (simp only [zk_lt, zk_le, zlt_m1, zlt_0, zlt_1, zlt_2, zlt_3, zlt_4, zlt_5, zlt_6, zlt_7, zlt_8, zlt_9, zlt_10, zlt_15, zlt_16, zlt_20, zlt_24, zlt_30, zlt_36, zlt_39, zlt_40, zlt_50, zlt_72, zlt_100, zlt_199, zlt_200, zlt_215, zlt_216, zlt_255, zlt_256, zlt_1000, zlt_9999, zlt_65535, zlt_1000000000, Int.lt_iff_add_one_le, zti_ite, zb_0, Decidable.not_not, zif_x1, zif_x2, zif_x3, zif_1x, zif_2x, zif_3x, zite_an, and_assoc, ite_self, not_false_eq_true, not_true_eq_false, Nat.reduceEqDiff, reduceIte, true_and, and_true, false_and, and_false, ite_true, ite_false]; with_reducible exact h5)
    | grind [zb]
  · (try simp only [F261, F340_0_148, G122, G260, G261, G340_0_148, M20, zup2, zup1, zite2, zite1, upd_r, Int32.mul_comm 6 q1, zeq_top h10 zlt_40, Int32.add_sub_cancel, q_0_11 h, q_1_6 h, q_24 h, q_25 h, q_5_0 h, q_30 h, q_31 h, q_32 h, q_33 h, q_34 h, q_37 h, q_38 h, q_39 h, q_40 h, ite_self, not_false_eq_true, not_true_eq_false, Nat.reduceEqDiff, reduceIte, true_and, and_true, false_and, and_false, ite_true, ite_false])
    first
    | done
    | with_reducible exact h6
    | (simp only [zk_lt, zk_le, zlt_m1, zlt_0, zlt_1, zlt_2, zlt_3, zlt_4, zlt_5, zlt_6, zlt_7, zlt_8, zlt_9, zlt_10, zlt_15, zlt_16, zlt_20, zlt_24, zlt_30, zlt_36, zlt_39, zlt_40, zlt_50, zlt_72, zlt_100, zlt_199, zlt_200, zlt_215, zlt_216, zlt_255, zlt_256, zlt_1000, zlt_9999, zlt_65535, zlt_1000000000, Int.lt_iff_add_one_le, zti_ite, zb_0, Decidable.not_not, zif_x1, zif_x2, zif_x3, zif_1x, zif_2x, zif_3x, zite_an, and_assoc, ite_self, not_false_eq_true, not_true_eq_false, Nat.reduceEqDiff, reduceIte, true_and, and_true, false_and, and_false, ite_true, ite_false]; done)
    | (simp only [zk_lt, zk_le, zlt_m1, zlt_0, zlt_1, zlt_2, zlt_3, zlt_4, zlt_5, zlt_6, zlt_7, zlt_8, zlt_9, zlt_10, zlt_15, zlt_16, zlt_20, zlt_24, zlt_30, zlt_36, zlt_39, zlt_40, zlt_50, zlt_72, zlt_100, zlt_199, zlt_200, zlt_215, zlt_216, zlt_255, zlt_256, zlt_1000, zlt_9999, zlt_65535, zlt_1000000000, Int.lt_iff_add_one_le, zti_ite, zb_0, Decidable.not_not, zif_x1, zif_x2, zif_x3, zif_1x, zif_2x, zif_3x, zite_an, and_assoc, ite_self, not_false_eq_true, not_true_eq_false, Nat.reduceEqDiff, reduceIte, true_and, and_true, false_and, and_false, ite_true, ite_false]; with_reducible exact h6)
    | grind [zb]
  · (try simp only [F261, F340_0_148, G122, G260, G261, G340_0_148, M20, zup2, zup1, zite2, zite1, upd_r, Int32.mul_comm 6 q1, zeq_top h10 zlt_40, Int32.add_sub_cancel, q_0_11 h, q_1_6 h, q_24 h, q_25 h, q_5_0 h, q_30 h, q_31 h, q_32 h, q_33 h, q_34 h, q_37 h, q_38 h, q_39 h, q_40 h, ite_self, not_false_eq_true, not_true_eq_false, Nat.reduceEqDiff, reduceIte, true_and, and_true, false_and, and_false, ite_true, ite_false])
    first
    | done
    | with_reducible exact h7
    | (simp only [zk_lt, zk_le, zlt_m1, zlt_0, zlt_1, zlt_2, zlt_3, zlt_4, zlt_5, zlt_6, zlt_7, zlt_8, zlt_9, zlt_10, zlt_15, zlt_16, zlt_20, zlt_24, zlt_30, zlt_36, zlt_39, zlt_40, zlt_50, zlt_72, zlt_100, zlt_199, zlt_200, zlt_215, zlt_216, zlt_255, zlt_256, zlt_1000, zlt_9999, zlt_65535, zlt_1000000000, Int.lt_iff_add_one_le, zti_ite, zb_0, Decidable.not_not, zif_x1, zif_x2, zif_x3, zif_1x, zif_2x, zif_3x, zite_an, and_assoc, ite_self, not_false_eq_true, not_true_eq_false, Nat.reduceEqDiff, reduceIte, true_and, and_true, false_and, and_false, ite_true, ite_false]; done)
    | (simp only [zk_lt, zk_le, zlt_m1, zlt_0, zlt_1, zlt_2, zlt_3, zlt_4, zlt_5, zlt_6, zlt_7, zlt_8, zlt_9, zlt_10, zlt_15, zlt_16, zlt_20, zlt_24, zlt_30, zlt_36, zlt_39, zlt_40, zlt_50, zlt_72, zlt_100, zlt_199, zlt_200, zlt_215, zlt_216, zlt_255, zlt_256, zlt_1000, zlt_9999, zlt_65535, zlt_1000000000, Int.lt_iff_add_one_le, zti_ite, zb_0, Decidable.not_not, zif_x1, zif_x2, zif_x3, zif_1x, zif_2x, zif_3x, zite_an, and_assoc, ite_self, not_false_eq_true, not_true_eq_false, Nat.reduceEqDiff, reduceIte, true_and, and_true, false_and, and_false, ite_true, ite_false]; with_reducible exact h7)
    | grind [zb]
  · (try simp only [F261, F340_0_148, G122, G260, G261, G340_0_148, M20, zup2, zup1, zite2, zite1, upd_r, Int32.mul_comm 6 q1, zeq_top h10 zlt_40, Int32.add_sub_cancel, q_0_11 h, q_1_6 h, q_24 h, q_25 h, q_5_0 h, q_30 h, q_31 h, q_32 h, q_33 h, q_34 h, q_37 h, q_38 h, q_39 h, q_40 h, ite_self, not_false_eq_true, not_true_eq_false, Nat.reduceEqDiff, reduceIte, true_and, and_true, false_and, and_false, ite_true, ite_false])
    first
    | done
    | with_reducible exact h8
    | (simp only [zk_lt, zk_le, zlt_m1, zlt_0, zlt_1, zlt_2, zlt_3, zlt_4, zlt_5, zlt_6, zlt_7, zlt_8, zlt_9, zlt_10, zlt_15, zlt_16, zlt_20, zlt_24, zlt_30, zlt_36, zlt_39, zlt_40, zlt_50, zlt_72, zlt_100, zlt_199, zlt_200, zlt_215, zlt_216, zlt_255, zlt_256, zlt_1000, zlt_9999, zlt_65535, zlt_1000000000, Int.lt_iff_add_one_le, zti_ite, zb_0, Decidable.not_not, zif_x1, zif_x2, zif_x3, zif_1x, zif_2x, zif_3x, zite_an, and_assoc, ite_self, not_false_eq_true, not_true_eq_false, Nat.reduceEqDiff, reduceIte, true_and, and_true, false_and, and_false, ite_true, ite_false]; done)
    | (simp only [zk_lt, zk_le, zlt_m1, zlt_0, zlt_1, zlt_2, zlt_3, zlt_4, zlt_5, zlt_6, zlt_7, zlt_8, zlt_9, zlt_10, zlt_15, zlt_16, zlt_20, zlt_24, zlt_30, zlt_36, zlt_39, zlt_40, zlt_50, zlt_72, zlt_100, zlt_199, zlt_200, zlt_215, zlt_216, zlt_255, zlt_256, zlt_1000, zlt_9999, zlt_65535, zlt_1000000000, Int.lt_iff_add_one_le, zti_ite, zb_0, Decidable.not_not, zif_x1, zif_x2, zif_x3, zif_1x, zif_2x, zif_3x, zite_an, and_assoc, ite_self, not_false_eq_true, not_true_eq_false, Nat.reduceEqDiff, reduceIte, true_and, and_true, false_and, and_false, ite_true, ite_false]; with_reducible exact h8)
    | grind [zb]
  · (try simp only [F261, F340_0_148, G122, G260, G261, G340_0_148, M20, zup2, zup1, zite2, zite1, upd_r, Int32.mul_comm 6 q1, zeq_top h10 zlt_40, Int32.add_sub_cancel, q_0_11 h, q_1_6 h, q_24 h, q_25 h, q_5_0 h, q_30 h, q_31 h, q_32 h, q_33 h, q_34 h, q_37 h, q_38 h, q_39 h, q_40 h, ite_self, not_false_eq_true, not_true_eq_false, Nat.reduceEqDiff, reduceIte, true_and, and_true, false_and, and_false, ite_true, ite_false])
    first
    | done
    | with_reducible exact h9
    | (simp only [zk_lt, zk_le, zlt_m1, zlt_0, zlt_1, zlt_2, zlt_3, zlt_4, zlt_5, zlt_6, zlt_7, zlt_8, zlt_9, zlt_10, zlt_15, zlt_16, zlt_20, zlt_24, zlt_30, zlt_36, zlt_39, zlt_40, zlt_50, zlt_72, zlt_100, zlt_199, zlt_200, zlt_215, zlt_216, zlt_255, zlt_256, zlt_1000, zlt_9999, zlt_65535, zlt_1000000000, Int.lt_iff_add_one_le, zti_ite, zb_0, Decidable.not_not, zif_x1, zif_x2, zif_x3, zif_1x, zif_2x, zif_3x, zite_an, and_assoc, ite_self, not_false_eq_true, not_true_eq_false, Nat.reduceEqDiff, reduceIte, true_and, and_true, false_and, and_false, ite_true, ite_false]; done)
    | (simp only [zk_lt, zk_le, zlt_m1, zlt_0, zlt_1, zlt_2, zlt_3, zlt_4, zlt_5, zlt_6, zlt_7, zlt_8, zlt_9, zlt_10, zlt_15, zlt_16, zlt_20, zlt_24, zlt_30, zlt_36, zlt_39, zlt_40, zlt_50, zlt_72, zlt_100, zlt_199, zlt_200, zlt_215, zlt_216, zlt_255, zlt_256, zlt_1000, zlt_9999, zlt_65535, zlt_1000000000, Int.lt_iff_add_one_le, zti_ite, zb_0, Decidable.not_not, zif_x1, zif_x2, zif_x3, zif_1x, zif_2x, zif_3x, zite_an, and_assoc, ite_self, not_false_eq_true, not_true_eq_false, Nat.reduceEqDiff, reduceIte, true_and, and_true, false_and, and_false, ite_true, ite_false]; with_reducible exact h9)
    | grind [zb]
  · simp only [F261, F340_0_148, G122, G260, G261, G340_0_148, M20, zup2, zup1, zite2, zite1, upd_r, Int32.mul_comm 6 q1, zeq_top h10 zlt_40, Int32.add_sub_cancel, q_0_11 h, q_1_6 h, q_24 h, q_25 h, q_5_0 h, q_30 h, q_31 h, q_32 h, q_33 h, q_34 h, q_37 h, q_38 h, q_39 h, q_40 h, ite_self, not_false_eq_true, not_true_eq_false, Nat.reduceEqDiff, reduceIte, true_and, and_true, false_and, and_false, ite_true, ite_false]
    split
    · unfold zn at *; grind
    · exact h10
  · simp only [F261, F340_0_148, G122, G260, G261, G340_0_148, M20, zup2, zup1, zite2, zite1, upd_r, Int32.mul_comm 6 q1, zeq_top h10 zlt_40, Int32.add_sub_cancel, q_0_11 h, q_1_6 h, q_24 h, q_25 h, q_5_0 h, q_30 h, q_31 h, q_32 h, q_33 h, q_34 h, q_37 h, q_38 h, q_39 h, q_40 h, ite_self, not_false_eq_true, not_true_eq_false, Nat.reduceEqDiff, reduceIte, true_and, and_true, false_and, and_false, ite_true, ite_false]
    intro j; have hj := h11 j; simp only [zk_lt, zk_le, zlt_m1, zlt_0, zlt_1, zlt_2, zlt_3, zlt_4, zlt_5, zlt_6, zlt_7, zlt_8, zlt_9, zlt_10, zlt_15, zlt_16, zlt_20, zlt_24, zlt_30, zlt_36, zlt_39, zlt_40, zlt_50, zlt_72, zlt_100, zlt_199, zlt_200, zlt_215, zlt_216, zlt_255, zlt_256, zlt_1000, zlt_9999, zlt_65535, zlt_1000000000, Int.lt_iff_add_one_le, zti_ite, zb_0, Decidable.not_not, zif_x1, zif_x2, zif_x3, zif_1x, zif_2x, zif_3x, zite_an, and_assoc, ite_self, not_false_eq_true, not_true_eq_false, Nat.reduceEqDiff, reduceIte, true_and, and_true, false_and, and_false, ite_true, ite_false]; grind
  · simp only [F261, F340_0_148, G122, G260, G261, G340_0_148, M20, zup2, zup1, zite2, zite1, upd_r, Int32.mul_comm 6 q1, zeq_top h10 zlt_40, Int32.add_sub_cancel, q_0_11 h, q_1_6 h, q_24 h, q_25 h, q_5_0 h, q_30 h, q_31 h, q_32 h, q_33 h, q_34 h, q_37 h, q_38 h, q_39 h, q_40 h, ite_self, not_false_eq_true, not_true_eq_false, Nat.reduceEqDiff, reduceIte, true_and, and_true, false_and, and_false, ite_true, ite_false]
    intro j; have hj := h12 j; simp only [zk_lt, zk_le, zlt_m1, zlt_0, zlt_1, zlt_2, zlt_3, zlt_4, zlt_5, zlt_6, zlt_7, zlt_8, zlt_9, zlt_10, zlt_15, zlt_16, zlt_20, zlt_24, zlt_30, zlt_36, zlt_39, zlt_40, zlt_50, zlt_72, zlt_100, zlt_199, zlt_200, zlt_215, zlt_216, zlt_255, zlt_256, zlt_1000, zlt_9999, zlt_65535, zlt_1000000000, Int.lt_iff_add_one_le, zti_ite, zb_0, Decidable.not_not, zif_x1, zif_x2, zif_x3, zif_1x, zif_2x, zif_3x, zite_an, and_assoc, ite_self, not_false_eq_true, not_true_eq_false, Nat.reduceEqDiff, reduceIte, true_and, and_true, false_and, and_false, ite_true, ite_false]; grind
  · simp only [F261, F340_0_148, G122, G260, G261, G340_0_148, M20, zup2, zup1, zite2, zite1, upd_r, Int32.mul_comm 6 q1, zeq_top h10 zlt_40, Int32.add_sub_cancel, q_0_11 h, q_1_6 h, q_24 h, q_25 h, q_5_0 h, q_30 h, q_31 h, q_32 h, q_33 h, q_34 h, q_37 h, q_38 h, q_39 h, q_40 h, ite_self, not_false_eq_true, not_true_eq_false, Nat.reduceEqDiff, reduceIte, true_and, and_true, false_and, and_false, ite_true, ite_false]
    intro j; have hj := h13 j; clear h11 h12 h13 h14 h15 h16 h17 h18 h19; grind
  · simp only [F261, F340_0_148, G122, G260, G261, G340_0_148, M20, zup2, zup1, zite2, zite1, upd_r, Int32.mul_comm 6 q1, zeq_top h10 zlt_40, Int32.add_sub_cancel, q_0_11 h, q_1_6 h, q_24 h, q_25 h, q_5_0 h, q_30 h, q_31 h, q_32 h, q_33 h, q_34 h, q_37 h, q_38 h, q_39 h, q_40 h, ite_self, not_false_eq_true, not_true_eq_false, Nat.reduceEqDiff, reduceIte, true_and, and_true, false_and, and_false, ite_true, ite_false]
    have hix : (zb (¬ (((¬ q1 < 0) ∧ (¬ 2 < q1)) ∧ ((¬ q2 < 0) ∧ (¬ 5 < q2))))) = 0 → (q1 * 6 + q2).toNatClampNeg < 18 := by
      intro g
      rw [zb_0, Decidable.not_not] at g
      obtain ⟨⟨g1, g2⟩, g3, g4⟩ := g
      rw [zk_lt, zlt_0] at g1 g3
      rw [zk_lt, zlt_2] at g2
      rw [zk_lt, zlt_5] at g4
      have m1 : (q1 * 6).toInt = q1.toInt * 6 := by rw [zk_tmul (by rw [zlt_6]; omega) (by rw [zlt_6]; omega), zlt_6]
      have m2 : (q1 * 6 + q2).toInt = q1.toInt * 6 + q2.toInt := by rw [zk_tadd (by omega) (by omega), m1]
      have m3 := zk_nat (x := q1 * 6 + q2) (by omega)
      omega
    intro j; have hj := h14 j; have ha := i_Ppl_6 h (q1 * 6 + q2).toNatClampNeg; clear h11 h12 h13 h14 h15 h16 h17 h18 h19
    (repeat' split) <;> first | exact hj | exact ha (hix (by assumption))
  · simp only [F261, F340_0_148, G122, G260, G261, G340_0_148, M20, zup2, zup1, zite2, zite1, upd_r, Int32.mul_comm 6 q1, zeq_top h10 zlt_40, Int32.add_sub_cancel, q_0_11 h, q_1_6 h, q_24 h, q_25 h, q_5_0 h, q_30 h, q_31 h, q_32 h, q_33 h, q_34 h, q_37 h, q_38 h, q_39 h, q_40 h, ite_self, not_false_eq_true, not_true_eq_false, Nat.reduceEqDiff, reduceIte, true_and, and_true, false_and, and_false, ite_true, ite_false]
    intro j; have hj := h15 j; clear h11 h12 h13 h14 h15 h16 h17 h18 h19; grind
  · simp only [F261, F340_0_148, G122, G260, G261, G340_0_148, M20, zup2, zup1, zite2, zite1, upd_r, Int32.mul_comm 6 q1, zeq_top h10 zlt_40, Int32.add_sub_cancel, q_0_11 h, q_1_6 h, q_24 h, q_25 h, q_5_0 h, q_30 h, q_31 h, q_32 h, q_33 h, q_34 h, q_37 h, q_38 h, q_39 h, q_40 h, ite_self, not_false_eq_true, not_true_eq_false, Nat.reduceEqDiff, reduceIte, true_and, and_true, false_and, and_false, ite_true, ite_false]
    intro j; have hj := h16 j; clear h11 h12 h13 h14 h15 h16 h17 h18 h19; grind [zo]
  · simp only [F261, F340_0_148, G122, G260, G261, G340_0_148, M20, zup2, zup1, zite2, zite1, upd_r, Int32.mul_comm 6 q1, zeq_top h10 zlt_40, Int32.add_sub_cancel, q_0_11 h, q_1_6 h, q_24 h, q_25 h, q_5_0 h, q_30 h, q_31 h, q_32 h, q_33 h, q_34 h, q_37 h, q_38 h, q_39 h, q_40 h, ite_self, not_false_eq_true, not_true_eq_false, Nat.reduceEqDiff, reduceIte, true_and, and_true, false_and, and_false, ite_true, ite_false]
    intro j; have hj := h17 j; clear h11 h12 h13 h14 h15 h16 h17 h18 h19; grind [zo]
  · simp only [F261, F340_0_148, G122, G260, G261, G340_0_148, M20, zup2, zup1, zite2, zite1, upd_r, Int32.mul_comm 6 q1, zeq_top h10 zlt_40, Int32.add_sub_cancel, q_0_11 h, q_1_6 h, q_24 h, q_25 h, q_5_0 h, q_30 h, q_31 h, q_32 h, q_33 h, q_34 h, q_37 h, q_38 h, q_39 h, q_40 h, ite_self, not_false_eq_true, not_true_eq_false, Nat.reduceEqDiff, reduceIte, true_and, and_true, false_and, and_false, ite_true, ite_false]
    intro j; have hj := h18 j; clear h11 h12 h13 h14 h15 h16 h17 h18 h19
    (repeat' split) <;> first | exact hj | decide
  · simp only [F261, F340_0_148, G122, G260, G261, G340_0_148, M20, zup2, zup1, zite2, zite1, upd_r, Int32.mul_comm 6 q1, zeq_top h10 zlt_40, Int32.add_sub_cancel, q_0_11 h, q_1_6 h, q_24 h, q_25 h, q_5_0 h, q_30 h, q_31 h, q_32 h, q_33 h, q_34 h, q_37 h, q_38 h, q_39 h, q_40 h, ite_self, not_false_eq_true, not_true_eq_false, Nat.reduceEqDiff, reduceIte, true_and, and_true, false_and, and_false, ite_true, ite_false]
    intro j hj; have hk := h19 j hj; clear h11 h12 h13 h14 h15 h16 h17 h18 h19
    (repeat' split) <;> first | exact hk | (rw [upd_r]; split; exact Or.inl rfl; exact hk)
set_option maxHeartbeats 200000 in
theorem zyt20_LT {n : Nat} {S T : zS} (q1 : Int32) (q2 : Int32) (hn : n < 512) (h : zR n S T) : zLT (G340_0_148 q1 q2 S) (M20 q1 q2 T) := by
  have hr := zR_LT h
  have hk := i_Tok_10 h
  have hz := i_Tok_15 h
  unfold zLT at hr ⊢
  unfold zn at hk
  have hc : ¬ T 13 45 = 40 → (T 13 45 + 1).toInt = (T 13 45).toInt + 1 := by
    intro e
    have e4 : ¬ (T 13 45).toInt = 40 := fun e9 => e (zk_eq.mpr e9)
    rw [zk_tadd (by rw [zk_1]; omega) (by rw [zk_1]; omega), zk_1]
  simp only [M20, G261, G260, zup2, zup1, zite2, zite1, upd_r, not_false_eq_true, not_true_eq_false, Nat.reduceEqDiff, reduceIte, true_and, and_true, false_and, and_false, ite_true, ite_false]
  intro j
  have hj := hr j
  have hzj := hz (T 120 j).toNatClampNeg
  grind
set_option maxHeartbeats 200000 in
theorem zyt20_Use {n : Nat} {S T : zS} (q1 : Int32) (q2 : Int32) (hn : n < 512) (h : zR n S T) : zUse (G340_0_148 q1 q2 S) (M20 q1 q2 T) := by
  have hr := zR_Use h
  have hk := i_Tok_10 h
  unfold zUse at hr ⊢
  unfold zn at hk
  have hc : ¬ T 13 45 = 40 → (T 13 45 + 1).toNatClampNeg = (T 13 45).toNatClampNeg + 1 := by
    intro e
    have e1 : (T 13 45 + 1).toInt = (T 13 45).toInt + 1 := by rw [zk_tadd (by rw [zk_1]; omega) (by rw [zk_1]; omega), zk_1]
    have e2 := zk_nat (x := T 13 45) (by omega)
    have e3 := zk_nat (x := T 13 45 + 1) (by omega)
    omega
  simp only [M20, G261, G260, zup2, zup1, zite2, zite1, upd_r, not_false_eq_true, not_true_eq_false, Nat.reduceEqDiff, reduceIte, true_and, and_true, false_and, and_false, ite_true, ite_false]
  intro j
  have hj := hr j
  grind
set_option maxHeartbeats 200000 in
theorem zyt20_Cas {n : Nat} {S T : zS} (q1 : Int32) (q2 : Int32) (hn : n < 512) (h : zR n S T) : zCas (G340_0_148 q1 q2 S) (M20 q1 q2 T) := by
  have hr := zR_Cas h
  unfold zCas at hr ⊢
  obtain ⟨h0, h1, h2, h3, h4, h5, h6, h7, h8, h9, h10, h11, h12, h13⟩ := hr
  refine ⟨?_, ?_, ?_, ?_, ?_, ?_, ?_, ?_, ?_, ?_, ?_, ?_, ?_, ?_⟩
  · (try simp only [F261, F340_0_148, G122, G260, G261, G340_0_148, M20, zup2, zup1, zite2, zite1, upd_r, Int32.mul_comm 6 q1, zeq_top (i_Tok_10 h) zlt_40, Int32.add_sub_cancel, q_1_6 h, q_24 h, q_25 h, q_5_0 h, q_30 h, q_10_4 h, q_66 h, q_67 h, q_68 h, q_69 h, q_70 h, q_71 h, ite_self, not_false_eq_true, not_true_eq_false, Nat.reduceEqDiff, reduceIte, true_and, and_true, false_and, and_false, ite_true, ite_false])
    first
    | done
    | with_reducible exact h0
    | (simp only [zk_lt, zk_le, zlt_m1, zlt_0, zlt_1, zlt_2, zlt_3, zlt_4, zlt_5, zlt_6, zlt_7, zlt_8, zlt_9, zlt_10, zlt_15, zlt_16, zlt_20, zlt_24, zlt_30, zlt_36, zlt_39, zlt_40, zlt_50, zlt_72, zlt_100, zlt_199, zlt_200, zlt_215, zlt_216, zlt_255, zlt_256, zlt_1000, zlt_9999, zlt_65535, zlt_1000000000, Int.lt_iff_add_one_le, zti_ite, zb_0, Decidable.not_not, zif_x1, zif_x2, zif_x3, zif_1x, zif_2x, zif_3x, zite_an, and_assoc, ite_self, not_false_eq_true, not_true_eq_false, Nat.reduceEqDiff, reduceIte, true_and, and_true, false_and, and_false, ite_true, ite_false]; done)
    | (simp only [zk_lt, zk_le, zlt_m1, zlt_0, zlt_1, zlt_2, zlt_3, zlt_4, zlt_5, zlt_6, zlt_7, zlt_8, zlt_9, zlt_10, zlt_15, zlt_16, zlt_20, zlt_24, zlt_30, zlt_36, zlt_39, zlt_40, zlt_50, zlt_72, zlt_100, zlt_199, zlt_200, zlt_215, zlt_216, zlt_255, zlt_256, zlt_1000, zlt_9999, zlt_65535, zlt_1000000000, Int.lt_iff_add_one_le, zti_ite, zb_0, Decidable.not_not, zif_x1, zif_x2, zif_x3, zif_1x, zif_2x, zif_3x, zite_an, and_assoc, ite_self, not_false_eq_true, not_true_eq_false, Nat.reduceEqDiff, reduceIte, true_and, and_true, false_and, and_false, ite_true, ite_false]; with_reducible exact h0)
    | grind [zb]
  · (try simp only [F261, F340_0_148, G122, G260, G261, G340_0_148, M20, zup2, zup1, zite2, zite1, upd_r, Int32.mul_comm 6 q1, zeq_top (i_Tok_10 h) zlt_40, Int32.add_sub_cancel, q_1_6 h, q_24 h, q_25 h, q_5_0 h, q_30 h, q_10_4 h, q_66 h, q_67 h, q_68 h, q_69 h, q_70 h, q_71 h, ite_self, not_false_eq_true, not_true_eq_false, Nat.reduceEqDiff, reduceIte, true_and, and_true, false_and, and_false, ite_true, ite_false])
    first
    | done
    | with_reducible exact h1
    | (simp only [zk_lt, zk_le, zlt_m1, zlt_0, zlt_1, zlt_2, zlt_3, zlt_4, zlt_5, zlt_6, zlt_7, zlt_8, zlt_9, zlt_10, zlt_15, zlt_16, zlt_20, zlt_24, zlt_30, zlt_36, zlt_39, zlt_40, zlt_50, zlt_72, zlt_100, zlt_199, zlt_200, zlt_215, zlt_216, zlt_255, zlt_256, zlt_1000, zlt_9999, zlt_65535, zlt_1000000000, Int.lt_iff_add_one_le, zti_ite, zb_0, Decidable.not_not, zif_x1, zif_x2, zif_x3, zif_1x, zif_2x, zif_3x, zite_an, and_assoc, ite_self, not_false_eq_true, not_true_eq_false, Nat.reduceEqDiff, reduceIte, true_and, and_true, false_and, and_false, ite_true, ite_false]; done)
    | (simp only [zk_lt, zk_le, zlt_m1, zlt_0, zlt_1, zlt_2, zlt_3, zlt_4, zlt_5, zlt_6, zlt_7, zlt_8, zlt_9, zlt_10, zlt_15, zlt_16, zlt_20, zlt_24, zlt_30, zlt_36, zlt_39, zlt_40, zlt_50, zlt_72, zlt_100, zlt_199, zlt_200, zlt_215, zlt_216, zlt_255, zlt_256, zlt_1000, zlt_9999, zlt_65535, zlt_1000000000, Int.lt_iff_add_one_le, zti_ite, zb_0, Decidable.not_not, zif_x1, zif_x2, zif_x3, zif_1x, zif_2x, zif_3x, zite_an, and_assoc, ite_self, not_false_eq_true, not_true_eq_false, Nat.reduceEqDiff, reduceIte, true_and, and_true, false_and, and_false, ite_true, ite_false]; with_reducible exact h1)
    | grind [zb]
  · (try simp only [F261, F340_0_148, G122, G260, G261, G340_0_148, M20, zup2, zup1, zite2, zite1, upd_r, Int32.mul_comm 6 q1, zeq_top (i_Tok_10 h) zlt_40, Int32.add_sub_cancel, q_1_6 h, q_24 h, q_25 h, q_5_0 h, q_30 h, q_10_4 h, q_66 h, q_67 h, q_68 h, q_69 h, q_70 h, q_71 h, ite_self, not_false_eq_true, not_true_eq_false, Nat.reduceEqDiff, reduceIte, true_and, and_true, false_and, and_false, ite_true, ite_false])
    first
    | done
    | with_reducible exact h2
    | (simp only [zk_lt, zk_le, zlt_m1, zlt_0, zlt_1, zlt_2, zlt_3, zlt_4, zlt_5, zlt_6, zlt_7, zlt_8, zlt_9, zlt_10, zlt_15, zlt_16, zlt_20, zlt_24, zlt_30, zlt_36, zlt_39, zlt_40, zlt_50, zlt_72, zlt_100, zlt_199, zlt_200, zlt_215, zlt_216, zlt_255, zlt_256, zlt_1000, zlt_9999, zlt_65535, zlt_1000000000, Int.lt_iff_add_one_le, zti_ite, zb_0, Decidable.not_not, zif_x1, zif_x2, zif_x3, zif_1x, zif_2x, zif_3x, zite_an, and_assoc, ite_self, not_false_eq_true, not_true_eq_false, Nat.reduceEqDiff, reduceIte, true_and, and_true, false_and, and_false, ite_true, ite_false]; done)
    | (simp only [zk_lt, zk_le, zlt_m1, zlt_0, zlt_1, zlt_2, zlt_3, zlt_4, zlt_5, zlt_6, zlt_7, zlt_8, zlt_9, zlt_10, zlt_15, zlt_16, zlt_20, zlt_24, zlt_30, zlt_36, zlt_39, zlt_40, zlt_50, zlt_72, zlt_100, zlt_199, zlt_200, zlt_215, zlt_216, zlt_255, zlt_256, zlt_1000, zlt_9999, zlt_65535, zlt_1000000000, Int.lt_iff_add_one_le, zti_ite, zb_0, Decidable.not_not, zif_x1, zif_x2, zif_x3, zif_1x, zif_2x, zif_3x, zite_an, and_assoc, ite_self, not_false_eq_true, not_true_eq_false, Nat.reduceEqDiff, reduceIte, true_and, and_true, false_and, and_false, ite_true, ite_false]; with_reducible exact h2)
    | grind [zb]
  · (try simp only [F261, F340_0_148, G122, G260, G261, G340_0_148, M20, zup2, zup1, zite2, zite1, upd_r, Int32.mul_comm 6 q1, zeq_top (i_Tok_10 h) zlt_40, Int32.add_sub_cancel, q_1_6 h, q_24 h, q_25 h, q_5_0 h, q_30 h, q_10_4 h, q_66 h, q_67 h, q_68 h, q_69 h, q_70 h, q_71 h, ite_self, not_false_eq_true, not_true_eq_false, Nat.reduceEqDiff, reduceIte, true_and, and_true, false_and, and_false, ite_true, ite_false])
    first
    | done
    | with_reducible exact h3
    | (simp only [zk_lt, zk_le, zlt_m1, zlt_0, zlt_1, zlt_2, zlt_3, zlt_4, zlt_5, zlt_6, zlt_7, zlt_8, zlt_9, zlt_10, zlt_15, zlt_16, zlt_20, zlt_24, zlt_30, zlt_36, zlt_39, zlt_40, zlt_50, zlt_72, zlt_100, zlt_199, zlt_200, zlt_215, zlt_216, zlt_255, zlt_256, zlt_1000, zlt_9999, zlt_65535, zlt_1000000000, Int.lt_iff_add_one_le, zti_ite, zb_0, Decidable.not_not, zif_x1, zif_x2, zif_x3, zif_1x, zif_2x, zif_3x, zite_an, and_assoc, ite_self, not_false_eq_true, not_true_eq_false, Nat.reduceEqDiff, reduceIte, true_and, and_true, false_and, and_false, ite_true, ite_false]; done)
    | (simp only [zk_lt, zk_le, zlt_m1, zlt_0, zlt_1, zlt_2, zlt_3, zlt_4, zlt_5, zlt_6, zlt_7, zlt_8, zlt_9, zlt_10, zlt_15, zlt_16, zlt_20, zlt_24, zlt_30, zlt_36, zlt_39, zlt_40, zlt_50, zlt_72, zlt_100, zlt_199, zlt_200, zlt_215, zlt_216, zlt_255, zlt_256, zlt_1000, zlt_9999, zlt_65535, zlt_1000000000, Int.lt_iff_add_one_le, zti_ite, zb_0, Decidable.not_not, zif_x1, zif_x2, zif_x3, zif_1x, zif_2x, zif_3x, zite_an, and_assoc, ite_self, not_false_eq_true, not_true_eq_false, Nat.reduceEqDiff, reduceIte, true_and, and_true, false_and, and_false, ite_true, ite_false]; with_reducible exact h3)
    | grind [zb]
  · (try simp only [F261, F340_0_148, G122, G260, G261, G340_0_148, M20, zup2, zup1, zite2, zite1, upd_r, Int32.mul_comm 6 q1, zeq_top (i_Tok_10 h) zlt_40, Int32.add_sub_cancel, q_1_6 h, q_24 h, q_25 h, q_5_0 h, q_30 h, q_10_4 h, q_66 h, q_67 h, q_68 h, q_69 h, q_70 h, q_71 h, ite_self, not_false_eq_true, not_true_eq_false, Nat.reduceEqDiff, reduceIte, true_and, and_true, false_and, and_false, ite_true, ite_false])
    first
    | done
    | with_reducible exact h4
    | (simp only [zk_lt, zk_le, zlt_m1, zlt_0, zlt_1, zlt_2, zlt_3, zlt_4, zlt_5, zlt_6, zlt_7, zlt_8, zlt_9, zlt_10, zlt_15, zlt_16, zlt_20, zlt_24, zlt_30, zlt_36, zlt_39, zlt_40, zlt_50, zlt_72, zlt_100, zlt_199, zlt_200, zlt_215, zlt_216, zlt_255, zlt_256, zlt_1000, zlt_9999, zlt_65535, zlt_1000000000, Int.lt_iff_add_one_le, zti_ite, zb_0, Decidable.not_not, zif_x1, zif_x2, zif_x3, zif_1x, zif_2x, zif_3x, zite_an, and_assoc, ite_self, not_false_eq_true, not_true_eq_false, Nat.reduceEqDiff, reduceIte, true_and, and_true, false_and, and_false, ite_true, ite_false]; done)
    | (simp only [zk_lt, zk_le, zlt_m1, zlt_0, zlt_1, zlt_2, zlt_3, zlt_4, zlt_5, zlt_6, zlt_7, zlt_8, zlt_9, zlt_10, zlt_15, zlt_16, zlt_20, zlt_24, zlt_30, zlt_36, zlt_39, zlt_40, zlt_50, zlt_72, zlt_100, zlt_199, zlt_200, zlt_215, zlt_216, zlt_255, zlt_256, zlt_1000, zlt_9999, zlt_65535, zlt_1000000000, Int.lt_iff_add_one_le, zti_ite, zb_0, Decidable.not_not, zif_x1, zif_x2, zif_x3, zif_1x, zif_2x, zif_3x, zite_an, and_assoc, ite_self, not_false_eq_true, not_true_eq_false, Nat.reduceEqDiff, reduceIte, true_and, and_true, false_and, and_false, ite_true, ite_false]; with_reducible exact h4)
    | grind [zb]
  · (try simp only [F261, F340_0_148, G122, G260, G261, G340_0_148, M20, zup2, zup1, zite2, zite1, upd_r, Int32.mul_comm 6 q1, zeq_top (i_Tok_10 h) zlt_40, Int32.add_sub_cancel, q_1_6 h, q_24 h, q_25 h, q_5_0 h, q_30 h, q_10_4 h, q_66 h, q_67 h, q_68 h, q_69 h, q_70 h, q_71 h, ite_self, not_false_eq_true, not_true_eq_false, Nat.reduceEqDiff, reduceIte, true_and, and_true, false_and, and_false, ite_true, ite_false])
    first
    | done
    | with_reducible exact h5
    | (simp only [zk_lt, zk_le, zlt_m1, zlt_0, zlt_1, zlt_2, zlt_3, zlt_4, zlt_5, zlt_6, zlt_7, zlt_8, zlt_9, zlt_10, zlt_15, zlt_16, zlt_20, zlt_24, zlt_30, zlt_36, zlt_39, zlt_40, zlt_50, zlt_72, zlt_100, zlt_199, zlt_200, zlt_215, zlt_216, zlt_255, zlt_256, zlt_1000, zlt_9999, zlt_65535, zlt_1000000000, Int.lt_iff_add_one_le, zti_ite, zb_0, Decidable.not_not, zif_x1, zif_x2, zif_x3, zif_1x, zif_2x, zif_3x, zite_an, and_assoc, ite_self, not_false_eq_true, not_true_eq_false, Nat.reduceEqDiff, reduceIte, true_and, and_true, false_and, and_false, ite_true, ite_false]; done)
    | (simp only [zk_lt, zk_le, zlt_m1, zlt_0, zlt_1, zlt_2, zlt_3, zlt_4, zlt_5, zlt_6, zlt_7, zlt_8, zlt_9, zlt_10, zlt_15, zlt_16, zlt_20, zlt_24, zlt_30, zlt_36, zlt_39, zlt_40, zlt_50, zlt_72, zlt_100, zlt_199, zlt_200, zlt_215, zlt_216, zlt_255, zlt_256, zlt_1000, zlt_9999, zlt_65535, zlt_1000000000, Int.lt_iff_add_one_le, zti_ite, zb_0, Decidable.not_not, zif_x1, zif_x2, zif_x3, zif_1x, zif_2x, zif_3x, zite_an, and_assoc, ite_self, not_false_eq_true, not_true_eq_false, Nat.reduceEqDiff, reduceIte, true_and, and_true, false_and, and_false, ite_true, ite_false]; with_reducible exact h5)
    | grind [zb]
  · (try simp only [F261, F340_0_148, G122, G260, G261, G340_0_148, M20, zup2, zup1, zite2, zite1, upd_r, Int32.mul_comm 6 q1, zeq_top (i_Tok_10 h) zlt_40, Int32.add_sub_cancel, q_1_6 h, q_24 h, q_25 h, q_5_0 h, q_30 h, q_10_4 h, q_66 h, q_67 h, q_68 h, q_69 h, q_70 h, q_71 h, ite_self, not_false_eq_true, not_true_eq_false, Nat.reduceEqDiff, reduceIte, true_and, and_true, false_and, and_false, ite_true, ite_false])
    first
    | done
    | with_reducible exact h6
    | (simp only [zk_lt, zk_le, zlt_m1, zlt_0, zlt_1, zlt_2, zlt_3, zlt_4, zlt_5, zlt_6, zlt_7, zlt_8, zlt_9, zlt_10, zlt_15, zlt_16, zlt_20, zlt_24, zlt_30, zlt_36, zlt_39, zlt_40, zlt_50, zlt_72, zlt_100, zlt_199, zlt_200, zlt_215, zlt_216, zlt_255, zlt_256, zlt_1000, zlt_9999, zlt_65535, zlt_1000000000, Int.lt_iff_add_one_le, zti_ite, zb_0, Decidable.not_not, zif_x1, zif_x2, zif_x3, zif_1x, zif_2x, zif_3x, zite_an, and_assoc, ite_self, not_false_eq_true, not_true_eq_false, Nat.reduceEqDiff, reduceIte, true_and, and_true, false_and, and_false, ite_true, ite_false]; done)
    | (simp only [zk_lt, zk_le, zlt_m1, zlt_0, zlt_1, zlt_2, zlt_3, zlt_4, zlt_5, zlt_6, zlt_7, zlt_8, zlt_9, zlt_10, zlt_15, zlt_16, zlt_20, zlt_24, zlt_30, zlt_36, zlt_39, zlt_40, zlt_50, zlt_72, zlt_100, zlt_199, zlt_200, zlt_215, zlt_216, zlt_255, zlt_256, zlt_1000, zlt_9999, zlt_65535, zlt_1000000000, Int.lt_iff_add_one_le, zti_ite, zb_0, Decidable.not_not, zif_x1, zif_x2, zif_x3, zif_1x, zif_2x, zif_3x, zite_an, and_assoc, ite_self, not_false_eq_true, not_true_eq_false, Nat.reduceEqDiff, reduceIte, true_and, and_true, false_and, and_false, ite_true, ite_false]; with_reducible exact h6)
    | grind [zb]
  · (try simp only [F261, F340_0_148, G122, G260, G261, G340_0_148, M20, zup2, zup1, zite2, zite1, upd_r, Int32.mul_comm 6 q1, zeq_top (i_Tok_10 h) zlt_40, Int32.add_sub_cancel, q_1_6 h, q_24 h, q_25 h, q_5_0 h, q_30 h, q_10_4 h, q_66 h, q_67 h, q_68 h, q_69 h, q_70 h, q_71 h, ite_self, not_false_eq_true, not_true_eq_false, Nat.reduceEqDiff, reduceIte, true_and, and_true, false_and, and_false, ite_true, ite_false])
    first
    | done
    | with_reducible exact h7
    | (simp only [zk_lt, zk_le, zlt_m1, zlt_0, zlt_1, zlt_2, zlt_3, zlt_4, zlt_5, zlt_6, zlt_7, zlt_8, zlt_9, zlt_10, zlt_15, zlt_16, zlt_20, zlt_24, zlt_30, zlt_36, zlt_39, zlt_40, zlt_50, zlt_72, zlt_100, zlt_199, zlt_200, zlt_215, zlt_216, zlt_255, zlt_256, zlt_1000, zlt_9999, zlt_65535, zlt_1000000000, Int.lt_iff_add_one_le, zti_ite, zb_0, Decidable.not_not, zif_x1, zif_x2, zif_x3, zif_1x, zif_2x, zif_3x, zite_an, and_assoc, ite_self, not_false_eq_true, not_true_eq_false, Nat.reduceEqDiff, reduceIte, true_and, and_true, false_and, and_false, ite_true, ite_false]; done)
    | (simp only [zk_lt, zk_le, zlt_m1, zlt_0, zlt_1, zlt_2, zlt_3, zlt_4, zlt_5, zlt_6, zlt_7, zlt_8, zlt_9, zlt_10, zlt_15, zlt_16, zlt_20, zlt_24, zlt_30, zlt_36, zlt_39, zlt_40, zlt_50, zlt_72, zlt_100, zlt_199, zlt_200, zlt_215, zlt_216, zlt_255, zlt_256, zlt_1000, zlt_9999, zlt_65535, zlt_1000000000, Int.lt_iff_add_one_le, zti_ite, zb_0, Decidable.not_not, zif_x1, zif_x2, zif_x3, zif_1x, zif_2x, zif_3x, zite_an, and_assoc, ite_self, not_false_eq_true, not_true_eq_false, Nat.reduceEqDiff, reduceIte, true_and, and_true, false_and, and_false, ite_true, ite_false]; with_reducible exact h7)
    | grind [zb]
  · (try simp only [F261, F340_0_148, G122, G260, G261, G340_0_148, M20, zup2, zup1, zite2, zite1, upd_r, Int32.mul_comm 6 q1, zeq_top (i_Tok_10 h) zlt_40, Int32.add_sub_cancel, q_1_6 h, q_24 h, q_25 h, q_5_0 h, q_30 h, q_10_4 h, q_66 h, q_67 h, q_68 h, q_69 h, q_70 h, q_71 h, ite_self, not_false_eq_true, not_true_eq_false, Nat.reduceEqDiff, reduceIte, true_and, and_true, false_and, and_false, ite_true, ite_false])
    first
    | done
    | with_reducible exact h8
    | (simp only [zk_lt, zk_le, zlt_m1, zlt_0, zlt_1, zlt_2, zlt_3, zlt_4, zlt_5, zlt_6, zlt_7, zlt_8, zlt_9, zlt_10, zlt_15, zlt_16, zlt_20, zlt_24, zlt_30, zlt_36, zlt_39, zlt_40, zlt_50, zlt_72, zlt_100, zlt_199, zlt_200, zlt_215, zlt_216, zlt_255, zlt_256, zlt_1000, zlt_9999, zlt_65535, zlt_1000000000, Int.lt_iff_add_one_le, zti_ite, zb_0, Decidable.not_not, zif_x1, zif_x2, zif_x3, zif_1x, zif_2x, zif_3x, zite_an, and_assoc, ite_self, not_false_eq_true, not_true_eq_false, Nat.reduceEqDiff, reduceIte, true_and, and_true, false_and, and_false, ite_true, ite_false]; done)
    | (simp only [zk_lt, zk_le, zlt_m1, zlt_0, zlt_1, zlt_2, zlt_3, zlt_4, zlt_5, zlt_6, zlt_7, zlt_8, zlt_9, zlt_10, zlt_15, zlt_16, zlt_20, zlt_24, zlt_30, zlt_36, zlt_39, zlt_40, zlt_50, zlt_72, zlt_100, zlt_199, zlt_200, zlt_215, zlt_216, zlt_255, zlt_256, zlt_1000, zlt_9999, zlt_65535, zlt_1000000000, Int.lt_iff_add_one_le, zti_ite, zb_0, Decidable.not_not, zif_x1, zif_x2, zif_x3, zif_1x, zif_2x, zif_3x, zite_an, and_assoc, ite_self, not_false_eq_true, not_true_eq_false, Nat.reduceEqDiff, reduceIte, true_and, and_true, false_and, and_false, ite_true, ite_false]; with_reducible exact h8)
    | (intro j; have hj := h8 j; simp only [zk_lt, zk_le, zlt_m1, zlt_0, zlt_1, zlt_2, zlt_3, zlt_4, zlt_5, zlt_6, zlt_7, zlt_8, zlt_9, zlt_10, zlt_15, zlt_16, zlt_20, zlt_24, zlt_30, zlt_36, zlt_39, zlt_40, zlt_50, zlt_72, zlt_100, zlt_199, zlt_200, zlt_215, zlt_216, zlt_255, zlt_256, zlt_1000, zlt_9999, zlt_65535, zlt_1000000000, Int.lt_iff_add_one_le, zti_ite, zb_0, Decidable.not_not, zif_x1, zif_x2, zif_x3, zif_1x, zif_2x, zif_3x, zite_an, and_assoc, ite_self, not_false_eq_true, not_true_eq_false, Nat.reduceEqDiff, reduceIte, true_and, and_true, false_and, and_false, ite_true, ite_false] at hj ⊢; grind [zb, zo, zn]) | (intro j; have hj := h8 j; grind [zb, zo, zn]) | (intro j; have hj := h8 j; (repeat' split) <;> first | exact hj | grind [zb, zo, zn, zlt_m1]) | grind [zb]
  · simp only [F261, F340_0_148, G122, G260, G261, G340_0_148, M20, zup2, zup1, zite2, zite1, upd_r, Int32.mul_comm 6 q1, zeq_top (i_Tok_10 h) zlt_40, Int32.add_sub_cancel, q_1_6 h, q_24 h, q_25 h, q_5_0 h, q_30 h, q_10_4 h, q_66 h, q_67 h, q_68 h, q_69 h, q_70 h, q_71 h, ite_self, not_false_eq_true, not_true_eq_false, Nat.reduceEqDiff, reduceIte, true_and, and_true, false_and, and_false, ite_true, ite_false]
    intro j hj
    have hk := h9 j hj
    have hc : ¬ (¬ T 13 45 < 40) → (T 13 45 + 1).toInt = (T 13 45).toInt + 1 := by
      intro e
      have e := Decidable.not_not.mp e
      have hk := (i_Tok_10 h).1
      rw [zk_lt, zlt_40] at e
      rw [zk_tadd (by rw [zk_1]; omega) (by rw [zk_1]; omega), zk_1]
    (repeat' split) <;> first | exact hk | (have := hc (by assumption); omega)
  · (try simp only [F261, F340_0_148, G122, G260, G261, G340_0_148, M20, zup2, zup1, zite2, zite1, upd_r, Int32.mul_comm 6 q1, zeq_top (i_Tok_10 h) zlt_40, Int32.add_sub_cancel, q_1_6 h, q_24 h, q_25 h, q_5_0 h, q_30 h, q_10_4 h, q_66 h, q_67 h, q_68 h, q_69 h, q_70 h, q_71 h, ite_self, not_false_eq_true, not_true_eq_false, Nat.reduceEqDiff, reduceIte, true_and, and_true, false_and, and_false, ite_true, ite_false])
    first
    | done
    | with_reducible exact h10
    | (simp only [zk_lt, zk_le, zlt_m1, zlt_0, zlt_1, zlt_2, zlt_3, zlt_4, zlt_5, zlt_6, zlt_7, zlt_8, zlt_9, zlt_10, zlt_15, zlt_16, zlt_20, zlt_24, zlt_30, zlt_36, zlt_39, zlt_40, zlt_50, zlt_72, zlt_100, zlt_199, zlt_200, zlt_215, zlt_216, zlt_255, zlt_256, zlt_1000, zlt_9999, zlt_65535, zlt_1000000000, Int.lt_iff_add_one_le, zti_ite, zb_0, Decidable.not_not, zif_x1, zif_x2, zif_x3, zif_1x, zif_2x, zif_3x, zite_an, and_assoc, ite_self, not_false_eq_true, not_true_eq_false, Nat.reduceEqDiff, reduceIte, true_and, and_true, false_and, and_false, ite_true, ite_false]; done)
    | (simp only [zk_lt, zk_le, zlt_m1, zlt_0, zlt_1, zlt_2, zlt_3, zlt_4, zlt_5, zlt_6, zlt_7, zlt_8, zlt_9, zlt_10, zlt_15, zlt_16, zlt_20, zlt_24, zlt_30, zlt_36, zlt_39, zlt_40, zlt_50, zlt_72, zlt_100, zlt_199, zlt_200, zlt_215, zlt_216, zlt_255, zlt_256, zlt_1000, zlt_9999, zlt_65535, zlt_1000000000, Int.lt_iff_add_one_le, zti_ite, zb_0, Decidable.not_not, zif_x1, zif_x2, zif_x3, zif_1x, zif_2x, zif_3x, zite_an, and_assoc, ite_self, not_false_eq_true, not_true_eq_false, Nat.reduceEqDiff, reduceIte, true_and, and_true, false_and, and_false, ite_true, ite_false]; with_reducible exact h10)
    | grind [zb]
  · (try simp only [F261, F340_0_148, G122, G260, G261, G340_0_148, M20, zup2, zup1, zite2, zite1, upd_r, Int32.mul_comm 6 q1, zeq_top (i_Tok_10 h) zlt_40, Int32.add_sub_cancel, q_1_6 h, q_24 h, q_25 h, q_5_0 h, q_30 h, q_10_4 h, q_66 h, q_67 h, q_68 h, q_69 h, q_70 h, q_71 h, ite_self, not_false_eq_true, not_true_eq_false, Nat.reduceEqDiff, reduceIte, true_and, and_true, false_and, and_false, ite_true, ite_false])
    first
    | done
    | with_reducible exact h11
    | (simp only [zk_lt, zk_le, zlt_m1, zlt_0, zlt_1, zlt_2, zlt_3, zlt_4, zlt_5, zlt_6, zlt_7, zlt_8, zlt_9, zlt_10, zlt_15, zlt_16, zlt_20, zlt_24, zlt_30, zlt_36, zlt_39, zlt_40, zlt_50, zlt_72, zlt_100, zlt_199, zlt_200, zlt_215, zlt_216, zlt_255, zlt_256, zlt_1000, zlt_9999, zlt_65535, zlt_1000000000, Int.lt_iff_add_one_le, zti_ite, zb_0, Decidable.not_not, zif_x1, zif_x2, zif_x3, zif_1x, zif_2x, zif_3x, zite_an, and_assoc, ite_self, not_false_eq_true, not_true_eq_false, Nat.reduceEqDiff, reduceIte, true_and, and_true, false_and, and_false, ite_true, ite_false]; done)
    | (simp only [zk_lt, zk_le, zlt_m1, zlt_0, zlt_1, zlt_2, zlt_3, zlt_4, zlt_5, zlt_6, zlt_7, zlt_8, zlt_9, zlt_10, zlt_15, zlt_16, zlt_20, zlt_24, zlt_30, zlt_36, zlt_39, zlt_40, zlt_50, zlt_72, zlt_100, zlt_199, zlt_200, zlt_215, zlt_216, zlt_255, zlt_256, zlt_1000, zlt_9999, zlt_65535, zlt_1000000000, Int.lt_iff_add_one_le, zti_ite, zb_0, Decidable.not_not, zif_x1, zif_x2, zif_x3, zif_1x, zif_2x, zif_3x, zite_an, and_assoc, ite_self, not_false_eq_true, not_true_eq_false, Nat.reduceEqDiff, reduceIte, true_and, and_true, false_and, and_false, ite_true, ite_false]; with_reducible exact h11)
    | (intro j; have hj := h11 j; simp only [zk_lt, zk_le, zlt_m1, zlt_0, zlt_1, zlt_2, zlt_3, zlt_4, zlt_5, zlt_6, zlt_7, zlt_8, zlt_9, zlt_10, zlt_15, zlt_16, zlt_20, zlt_24, zlt_30, zlt_36, zlt_39, zlt_40, zlt_50, zlt_72, zlt_100, zlt_199, zlt_200, zlt_215, zlt_216, zlt_255, zlt_256, zlt_1000, zlt_9999, zlt_65535, zlt_1000000000, Int.lt_iff_add_one_le, zti_ite, zb_0, Decidable.not_not, zif_x1, zif_x2, zif_x3, zif_1x, zif_2x, zif_3x, zite_an, and_assoc, ite_self, not_false_eq_true, not_true_eq_false, Nat.reduceEqDiff, reduceIte, true_and, and_true, false_and, and_false, ite_true, ite_false] at hj ⊢; grind [zb, zo, zn]) | (intro j; have hj := h11 j; grind [zb, zo, zn]) | (intro j; have hj := h11 j; (repeat' split) <;> first | exact hj | grind [zb, zo, zn, zlt_m1]) | grind [zb]
  · (try simp only [F261, F340_0_148, G122, G260, G261, G340_0_148, M20, zup2, zup1, zite2, zite1, upd_r, Int32.mul_comm 6 q1, zeq_top (i_Tok_10 h) zlt_40, Int32.add_sub_cancel, q_1_6 h, q_24 h, q_25 h, q_5_0 h, q_30 h, q_10_4 h, q_66 h, q_67 h, q_68 h, q_69 h, q_70 h, q_71 h, ite_self, not_false_eq_true, not_true_eq_false, Nat.reduceEqDiff, reduceIte, true_and, and_true, false_and, and_false, ite_true, ite_false])
    first
    | done
    | with_reducible exact h12
    | (simp only [zk_lt, zk_le, zlt_m1, zlt_0, zlt_1, zlt_2, zlt_3, zlt_4, zlt_5, zlt_6, zlt_7, zlt_8, zlt_9, zlt_10, zlt_15, zlt_16, zlt_20, zlt_24, zlt_30, zlt_36, zlt_39, zlt_40, zlt_50, zlt_72, zlt_100, zlt_199, zlt_200, zlt_215, zlt_216, zlt_255, zlt_256, zlt_1000, zlt_9999, zlt_65535, zlt_1000000000, Int.lt_iff_add_one_le, zti_ite, zb_0, Decidable.not_not, zif_x1, zif_x2, zif_x3, zif_1x, zif_2x, zif_3x, zite_an, and_assoc, ite_self, not_false_eq_true, not_true_eq_false, Nat.reduceEqDiff, reduceIte, true_and, and_true, false_and, and_false, ite_true, ite_false]; done)
    | (simp only [zk_lt, zk_le, zlt_m1, zlt_0, zlt_1, zlt_2, zlt_3, zlt_4, zlt_5, zlt_6, zlt_7, zlt_8, zlt_9, zlt_10, zlt_15, zlt_16, zlt_20, zlt_24, zlt_30, zlt_36, zlt_39, zlt_40, zlt_50, zlt_72, zlt_100, zlt_199, zlt_200, zlt_215, zlt_216, zlt_255, zlt_256, zlt_1000, zlt_9999, zlt_65535, zlt_1000000000, Int.lt_iff_add_one_le, zti_ite, zb_0, Decidable.not_not, zif_x1, zif_x2, zif_x3, zif_1x, zif_2x, zif_3x, zite_an, and_assoc, ite_self, not_false_eq_true, not_true_eq_false, Nat.reduceEqDiff, reduceIte, true_and, and_true, false_and, and_false, ite_true, ite_false]; with_reducible exact h12)
    | (intro j; have hj := h12 j; simp only [zk_lt, zk_le, zlt_m1, zlt_0, zlt_1, zlt_2, zlt_3, zlt_4, zlt_5, zlt_6, zlt_7, zlt_8, zlt_9, zlt_10, zlt_15, zlt_16, zlt_20, zlt_24, zlt_30, zlt_36, zlt_39, zlt_40, zlt_50, zlt_72, zlt_100, zlt_199, zlt_200, zlt_215, zlt_216, zlt_255, zlt_256, zlt_1000, zlt_9999, zlt_65535, zlt_1000000000, Int.lt_iff_add_one_le, zti_ite, zb_0, Decidable.not_not, zif_x1, zif_x2, zif_x3, zif_1x, zif_2x, zif_3x, zite_an, and_assoc, ite_self, not_false_eq_true, not_true_eq_false, Nat.reduceEqDiff, reduceIte, true_and, and_true, false_and, and_false, ite_true, ite_false] at hj ⊢; grind [zb, zo, zn]) | (intro j; have hj := h12 j; grind [zb, zo, zn]) | (intro j; have hj := h12 j; (repeat' split) <;> first | exact hj | grind [zb, zo, zn, zlt_m1]) | grind [zb]
  · (try simp only [F261, F340_0_148, G122, G260, G261, G340_0_148, M20, zup2, zup1, zite2, zite1, upd_r, Int32.mul_comm 6 q1, zeq_top (i_Tok_10 h) zlt_40, Int32.add_sub_cancel, q_1_6 h, q_24 h, q_25 h, q_5_0 h, q_30 h, q_10_4 h, q_66 h, q_67 h, q_68 h, q_69 h, q_70 h, q_71 h, ite_self, not_false_eq_true, not_true_eq_false, Nat.reduceEqDiff, reduceIte, true_and, and_true, false_and, and_false, ite_true, ite_false])
    first
    | done
    | with_reducible exact h13
    | (simp only [zk_lt, zk_le, zlt_m1, zlt_0, zlt_1, zlt_2, zlt_3, zlt_4, zlt_5, zlt_6, zlt_7, zlt_8, zlt_9, zlt_10, zlt_15, zlt_16, zlt_20, zlt_24, zlt_30, zlt_36, zlt_39, zlt_40, zlt_50, zlt_72, zlt_100, zlt_199, zlt_200, zlt_215, zlt_216, zlt_255, zlt_256, zlt_1000, zlt_9999, zlt_65535, zlt_1000000000, Int.lt_iff_add_one_le, zti_ite, zb_0, Decidable.not_not, zif_x1, zif_x2, zif_x3, zif_1x, zif_2x, zif_3x, zite_an, and_assoc, ite_self, not_false_eq_true, not_true_eq_false, Nat.reduceEqDiff, reduceIte, true_and, and_true, false_and, and_false, ite_true, ite_false]; done)
    | (simp only [zk_lt, zk_le, zlt_m1, zlt_0, zlt_1, zlt_2, zlt_3, zlt_4, zlt_5, zlt_6, zlt_7, zlt_8, zlt_9, zlt_10, zlt_15, zlt_16, zlt_20, zlt_24, zlt_30, zlt_36, zlt_39, zlt_40, zlt_50, zlt_72, zlt_100, zlt_199, zlt_200, zlt_215, zlt_216, zlt_255, zlt_256, zlt_1000, zlt_9999, zlt_65535, zlt_1000000000, Int.lt_iff_add_one_le, zti_ite, zb_0, Decidable.not_not, zif_x1, zif_x2, zif_x3, zif_1x, zif_2x, zif_3x, zite_an, and_assoc, ite_self, not_false_eq_true, not_true_eq_false, Nat.reduceEqDiff, reduceIte, true_and, and_true, false_and, and_false, ite_true, ite_false]; with_reducible exact h13)
    | (intro j; have hj := h13 j; simp only [zk_lt, zk_le, zlt_m1, zlt_0, zlt_1, zlt_2, zlt_3, zlt_4, zlt_5, zlt_6, zlt_7, zlt_8, zlt_9, zlt_10, zlt_15, zlt_16, zlt_20, zlt_24, zlt_30, zlt_36, zlt_39, zlt_40, zlt_50, zlt_72, zlt_100, zlt_199, zlt_200, zlt_215, zlt_216, zlt_255, zlt_256, zlt_1000, zlt_9999, zlt_65535, zlt_1000000000, Int.lt_iff_add_one_le, zti_ite, zb_0, Decidable.not_not, zif_x1, zif_x2, zif_x3, zif_1x, zif_2x, zif_3x, zite_an, and_assoc, ite_self, not_false_eq_true, not_true_eq_false, Nat.reduceEqDiff, reduceIte, true_and, and_true, false_and, and_false, ite_true, ite_false] at hj ⊢; grind [zb, zo, zn]) | (intro j; have hj := h13 j; grind [zb, zo, zn]) | (intro j; have hj := h13 j; (repeat' split) <;> first | exact hj | grind [zb, zo, zn, zlt_m1]) | grind [zb]

/-! call 22: the class and the reference answer alike (wip/whole/man/22.txt) -/
set_option maxHeartbeats 200000 in
theorem zyr22 {n : Nat} {S T : zS} (q1 : Int32) (q2 : Int32) (hn : n < 512) (h : zR n S T) : ((G263 q1 q2 T) 13 0) = (F342_0_148 q1 q2 S) ∧ ((F342_0_148 q1 q2 S) = 0 → ((G342_0_148 q1 q2 S) 148 0) = (F263 q1 q2 T)) := by
  have hp : T 109 q1.toNatClampNeg = 2 → T 114 q1.toNatClampNeg = 1000000000 ∧ S 36 q1.toNatClampNeg = T 115 q1.toNatClampNeg ∧ zn 100 (T 115 q1.toNatClampNeg) := i_Tok_12 h _
  have hq := i_Tok_11 h q1.toNatClampNeg
  have hh := i_Key_7 h
  have hpe : T 109 q1.toNatClampNeg = 2 → ¬ ((1000000000 : Int32) ≤ T 13 1 + T 115 q1.toNatClampNeg) := by
    intro e
    obtain ⟨e1, e2, e3⟩ := hp e
    unfold zn at e3 hh
    rw [zk_le, zlt_1000000000, zk_tadd (by omega) (by omega)]
    omega
  simp only [F263, F342_0_148, G263, G342_0_148, zup2, zup1, zite2, zite1, upd_r, zmin_i, zt_le (zn_mono (i_Tok_10 h) (by decide)), q_1_6 h, q_0_11 h, q_5_0 h, q_31 h, q_34 h, q_40 h, ite_self, not_false_eq_true, not_true_eq_false, Nat.reduceEqDiff, reduceIte, true_and, and_true, false_and, and_false, ite_true, ite_false]
  first
  | done
  | (simp only [zk_lt, zk_le, zlt_m1, zlt_0, zlt_1, zlt_2, zlt_3, zlt_4, zlt_5, zlt_6, zlt_7, zlt_8, zlt_9, zlt_10, zlt_15, zlt_16, zlt_20, zlt_24, zlt_30, zlt_36, zlt_39, zlt_40, zlt_50, zlt_72, zlt_100, zlt_199, zlt_200, zlt_215, zlt_216, zlt_255, zlt_256, zlt_1000, zlt_9999, zlt_65535, zlt_1000000000, Int.lt_iff_add_one_le, zti_ite, zb_0, Decidable.not_not, zif_x1, zif_x2, zif_x3, zif_1x, zif_2x, zif_3x, zite_an, and_assoc, ite_self, not_false_eq_true, not_true_eq_false, Nat.reduceEqDiff, reduceIte, true_and, and_true, false_and, and_false, ite_true, ite_false]; done)
  | (simp only [zk_lt, zk_le, zlt_m1, zlt_0, zlt_1, zlt_2, zlt_3, zlt_4, zlt_5, zlt_6, zlt_7, zlt_8, zlt_9, zlt_10, zlt_15, zlt_16, zlt_20, zlt_24, zlt_30, zlt_36, zlt_39, zlt_40, zlt_50, zlt_72, zlt_100, zlt_199, zlt_200, zlt_215, zlt_216, zlt_255, zlt_256, zlt_1000, zlt_9999, zlt_65535, zlt_1000000000, Int.lt_iff_add_one_le, zti_ite, zb_0, Decidable.not_not, zif_x1, zif_x2, zif_x3, zif_1x, zif_2x, zif_3x, zite_an, and_assoc, ite_self, not_false_eq_true, not_true_eq_false, Nat.reduceEqDiff, reduceIte, true_and, and_true, false_and, and_false, ite_true, ite_false]; grind [zb])
  | grind [zb]
set_option maxHeartbeats 200000 in
theorem zyt22_Tok {n : Nat} {S T : zS} (q1 : Int32) (q2 : Int32) (hn : n < 512) (h : zR n S T) : zTok (G342_0_148 q1 q2 S) (M22 q1 q2 T) := by
  have hr := zR_Tok h
  unfold zTok at hr ⊢
  obtain ⟨h0, h1, h2, h3, h4, h5, h6, h7, h8, h9, h10, h11, h12, h13, h14, h15, h16, h17, h18, h19⟩ := hr
  have hp : T 109 q1.toNatClampNeg = 2 → T 114 q1.toNatClampNeg = 1000000000 ∧ S 36 q1.toNatClampNeg = T 115 q1.toNatClampNeg ∧ zn 100 (T 115 q1.toNatClampNeg) := i_Tok_12 h _
  have hq := i_Tok_11 h q1.toNatClampNeg
  have hh := i_Key_7 h
  have hpe : T 109 q1.toNatClampNeg = 2 → ¬ ((1000000000 : Int32) ≤ T 13 1 + T 115 q1.toNatClampNeg) := by
    intro e
    obtain ⟨e1, e2, e3⟩ := hp e
    unfold zn at e3 hh
    rw [zk_le, zlt_1000000000, zk_tadd (by omega) (by omega)]
    omega
  refine ⟨?_, ?_, ?_, ?_, ?_, ?_, ?_, ?_, ?_, ?_, ?_, ?_, ?_, ?_, ?_, ?_, ?_, ?_, ?_, ?_⟩
  · (try simp only [F263, F342_0_148, G263, G342_0_148, M22, zup2, zup1, zite2, zite1, upd_r, zmin_i, zt_le (zn_mono (i_Tok_10 h) (by decide)), q_1_6 h, q_0_11 h, q_5_0 h, q_30 h, q_31 h, q_32 h, q_33 h, q_34 h, q_37 h, q_38 h, q_39 h, q_40 h, ite_self, not_false_eq_true, not_true_eq_false, Nat.reduceEqDiff, reduceIte, true_and, and_true, false_and, and_false, ite_true, ite_false])
    first
    | done
    | with_reducible exact h0
    | (simp only [zk_lt, zk_le, zlt_m1, zlt_0, zlt_1, zlt_2, zlt_3, zlt_4, zlt_5, zlt_6, zlt_7, zlt_8, zlt_9, zlt_10, zlt_15, zlt_16, zlt_20, zlt_24, zlt_30, zlt_36, zlt_39, zlt_40, zlt_50, zlt_72, zlt_100, zlt_199, zlt_200, zlt_215, zlt_216, zlt_255, zlt_256, zlt_1000, zlt_9999, zlt_65535, zlt_1000000000, Int.lt_iff_add_one_le, zti_ite, zb_0, Decidable.not_not, zif_x1, zif_x2, zif_x3, zif_1x, zif_2x, zif_3x, zite_an, and_assoc, ite_self, not_false_eq_true, not_true_eq_false, Nat.reduceEqDiff, reduceIte, true_and, and_true, false_and, and_false, ite_true, ite_false]; done)
    | (simp only [zk_lt, zk_le, zlt_m1, zlt_0, zlt_1, zlt_2, zlt_3, zlt_4, zlt_5, zlt_6, zlt_7, zlt_8, zlt_9, zlt_10, zlt_15, zlt_16, zlt_20, zlt_24, zlt_30, zlt_36, zlt_39, zlt_40, zlt_50, zlt_72, zlt_100, zlt_199, zlt_200, zlt_215, zlt_216, zlt_255, zlt_256, zlt_1000, zlt_9999, zlt_65535, zlt_1000000000, Int.lt_iff_add_one_le, zti_ite, zb_0, Decidable.not_not, zif_x1, zif_x2, zif_x3, zif_1x, zif_2x, zif_3x, zite_an, and_assoc, ite_self, not_false_eq_true, not_true_eq_false, Nat.reduceEqDiff, reduceIte, true_and, and_true, false_and, and_false, ite_true, ite_false]; with_reducible exact h0)
    | grind [zb]
  · (try simp only [F263, F342_0_148, G263, G342_0_148, M22, zup2, zup1, zite2, zite1, upd_r, zmin_i, zt_le (zn_mono (i_Tok_10 h) (by decide)), q_1_6 h, q_0_11 h, q_5_0 h, q_30 h, q_31 h, q_32 h, q_33 h, q_34 h, q_37 h, q_38 h, q_39 h, q_40 h, ite_self, not_false_eq_true, not_true_eq_false, Nat.reduceEqDiff, reduceIte, true_and, and_true, false_and, and_false, ite_true, ite_false])
    first
    | done
    | with_reducible exact h1
    | (simp only [zk_lt, zk_le, zlt_m1, zlt_0, zlt_1, zlt_2, zlt_3, zlt_4, zlt_5, zlt_6, zlt_7, zlt_8, zlt_9, zlt_10, zlt_15, zlt_16, zlt_20, zlt_24, zlt_30, zlt_36, zlt_39, zlt_40, zlt_50, zlt_72, zlt_100, zlt_199, zlt_200, zlt_215, zlt_216, zlt_255, zlt_256, zlt_1000, zlt_9999, zlt_65535, zlt_1000000000, Int.lt_iff_add_one_le, zti_ite, zb_0, Decidable.not_not, zif_x1, zif_x2, zif_x3, zif_1x, zif_2x, zif_3x, zite_an, and_assoc, ite_self, not_false_eq_true, not_true_eq_false, Nat.reduceEqDiff, reduceIte, true_and, and_true, false_and, and_false, ite_true, ite_false]; done)
    | (simp only [zk_lt, zk_le, zlt_m1, zlt_0, zlt_1, zlt_2, zlt_3, zlt_4, zlt_5, zlt_6, zlt_7, zlt_8, zlt_9, zlt_10, zlt_15, zlt_16, zlt_20, zlt_24, zlt_30, zlt_36, zlt_39, zlt_40, zlt_50, zlt_72, zlt_100, zlt_199, zlt_200, zlt_215, zlt_216, zlt_255, zlt_256, zlt_1000, zlt_9999, zlt_65535, zlt_1000000000, Int.lt_iff_add_one_le, zti_ite, zb_0, Decidable.not_not, zif_x1, zif_x2, zif_x3, zif_1x, zif_2x, zif_3x, zite_an, and_assoc, ite_self, not_false_eq_true, not_true_eq_false, Nat.reduceEqDiff, reduceIte, true_and, and_true, false_and, and_false, ite_true, ite_false]; with_reducible exact h1)
    | grind [zb]
  · (try simp only [F263, F342_0_148, G263, G342_0_148, M22, zup2, zup1, zite2, zite1, upd_r, zmin_i, zt_le (zn_mono (i_Tok_10 h) (by decide)), q_1_6 h, q_0_11 h, q_5_0 h, q_30 h, q_31 h, q_32 h, q_33 h, q_34 h, q_37 h, q_38 h, q_39 h, q_40 h, ite_self, not_false_eq_true, not_true_eq_false, Nat.reduceEqDiff, reduceIte, true_and, and_true, false_and, and_false, ite_true, ite_false])
    first
    | done
    | with_reducible exact h2
    | (simp only [zk_lt, zk_le, zlt_m1, zlt_0, zlt_1, zlt_2, zlt_3, zlt_4, zlt_5, zlt_6, zlt_7, zlt_8, zlt_9, zlt_10, zlt_15, zlt_16, zlt_20, zlt_24, zlt_30, zlt_36, zlt_39, zlt_40, zlt_50, zlt_72, zlt_100, zlt_199, zlt_200, zlt_215, zlt_216, zlt_255, zlt_256, zlt_1000, zlt_9999, zlt_65535, zlt_1000000000, Int.lt_iff_add_one_le, zti_ite, zb_0, Decidable.not_not, zif_x1, zif_x2, zif_x3, zif_1x, zif_2x, zif_3x, zite_an, and_assoc, ite_self, not_false_eq_true, not_true_eq_false, Nat.reduceEqDiff, reduceIte, true_and, and_true, false_and, and_false, ite_true, ite_false]; done)
    | (simp only [zk_lt, zk_le, zlt_m1, zlt_0, zlt_1, zlt_2, zlt_3, zlt_4, zlt_5, zlt_6, zlt_7, zlt_8, zlt_9, zlt_10, zlt_15, zlt_16, zlt_20, zlt_24, zlt_30, zlt_36, zlt_39, zlt_40, zlt_50, zlt_72, zlt_100, zlt_199, zlt_200, zlt_215, zlt_216, zlt_255, zlt_256, zlt_1000, zlt_9999, zlt_65535, zlt_1000000000, Int.lt_iff_add_one_le, zti_ite, zb_0, Decidable.not_not, zif_x1, zif_x2, zif_x3, zif_1x, zif_2x, zif_3x, zite_an, and_assoc, ite_self, not_false_eq_true, not_true_eq_false, Nat.reduceEqDiff, reduceIte, true_and, and_true, false_and, and_false, ite_true, ite_false]; with_reducible exact h2)
    | grind [zb]
  · (try simp only [F263, F342_0_148, G263, G342_0_148, M22, zup2, zup1, zite2, zite1, upd_r, zmin_i, zt_le (zn_mono (i_Tok_10 h) (by decide)), q_1_6 h, q_0_11 h, q_5_0 h, q_30 h, q_31 h, q_32 h, q_33 h, q_34 h, q_37 h, q_38 h, q_39 h, q_40 h, ite_self, not_false_eq_true, not_true_eq_false, Nat.reduceEqDiff, reduceIte, true_and, and_true, false_and, and_false, ite_true, ite_false])
    first
    | done
    | with_reducible exact h3
    | (simp only [zk_lt, zk_le, zlt_m1, zlt_0, zlt_1, zlt_2, zlt_3, zlt_4, zlt_5, zlt_6, zlt_7, zlt_8, zlt_9, zlt_10, zlt_15, zlt_16, zlt_20, zlt_24, zlt_30, zlt_36, zlt_39, zlt_40, zlt_50, zlt_72, zlt_100, zlt_199, zlt_200, zlt_215, zlt_216, zlt_255, zlt_256, zlt_1000, zlt_9999, zlt_65535, zlt_1000000000, Int.lt_iff_add_one_le, zti_ite, zb_0, Decidable.not_not, zif_x1, zif_x2, zif_x3, zif_1x, zif_2x, zif_3x, zite_an, and_assoc, ite_self, not_false_eq_true, not_true_eq_false, Nat.reduceEqDiff, reduceIte, true_and, and_true, false_and, and_false, ite_true, ite_false]; done)
    | (simp only [zk_lt, zk_le, zlt_m1, zlt_0, zlt_1, zlt_2, zlt_3, zlt_4, zlt_5, zlt_6, zlt_7, zlt_8, zlt_9, zlt_10, zlt_15, zlt_16, zlt_20, zlt_24, zlt_30, zlt_36, zlt_39, zlt_40, zlt_50, zlt_72, zlt_100, zlt_199, zlt_200, zlt_215, zlt_216, zlt_255, zlt_256, zlt_1000, zlt_9999, zlt_65535, zlt_1000000000, Int.lt_iff_add_one_le, zti_ite, zb_0, Decidable.not_not, zif_x1, zif_x2, zif_x3, zif_1x, zif_2x, zif_3x, zite_an, and_assoc, ite_self, not_false_eq_true, not_true_eq_false, Nat.reduceEqDiff, reduceIte, true_and, and_true, false_and, and_false, ite_true, ite_false]; with_reducible exact h3)
    | grind [zb]
  · (try simp only [F263, F342_0_148, G263, G342_0_148, M22, zup2, zup1, zite2, zite1, upd_r, zmin_i, zt_le (zn_mono (i_Tok_10 h) (by decide)), q_1_6 h, q_0_11 h, q_5_0 h, q_30 h, q_31 h, q_32 h, q_33 h, q_34 h, q_37 h, q_38 h, q_39 h, q_40 h, ite_self, not_false_eq_true, not_true_eq_false, Nat.reduceEqDiff, reduceIte, true_and, and_true, false_and, and_false, ite_true, ite_false])
    first
    | done
    | with_reducible exact h4
    | (simp only [zk_lt, zk_le, zlt_m1, zlt_0, zlt_1, zlt_2, zlt_3, zlt_4, zlt_5, zlt_6, zlt_7, zlt_8, zlt_9, zlt_10, zlt_15, zlt_16, zlt_20, zlt_24, zlt_30, zlt_36, zlt_39, zlt_40, zlt_50, zlt_72, zlt_100, zlt_199, zlt_200, zlt_215, zlt_216, zlt_255, zlt_256, zlt_1000, zlt_9999, zlt_65535, zlt_1000000000, Int.lt_iff_add_one_le, zti_ite, zb_0, Decidable.not_not, zif_x1, zif_x2, zif_x3, zif_1x, zif_2x, zif_3x, zite_an, and_assoc, ite_self, not_false_eq_true, not_true_eq_false, Nat.reduceEqDiff, reduceIte, true_and, and_true, false_and, and_false, ite_true, ite_false]; done)
    | (simp only [zk_lt, zk_le, zlt_m1, zlt_0, zlt_1, zlt_2, zlt_3, zlt_4, zlt_5, zlt_6, zlt_7, zlt_8, zlt_9, zlt_10, zlt_15, zlt_16, zlt_20, zlt_24, zlt_30, zlt_36, zlt_39, zlt_40, zlt_50, zlt_72, zlt_100, zlt_199, zlt_200, zlt_215, zlt_216, zlt_255, zlt_256, zlt_1000, zlt_9999, zlt_65535, zlt_1000000000, Int.lt_iff_add_one_le, zti_ite, zb_0, Decidable.not_not, zif_x1, zif_x2, zif_x3, zif_1x, zif_2x, zif_3x, zite_an, and_assoc, ite_self, not_false_eq_true, not_true_eq_false, Nat.reduceEqDiff, reduceIte, true_and, and_true, false_and, and_false, ite_true, ite_false]; with_reducible exact h4)
    | grind [zb]
  · simp only [F263, F342_0_148, G263, G342_0_148, M22, zup2, zup1, zite2, zite1, upd_r, zmin_i, zt_le (zn_mono (i_Tok_10 h) (by decide)), q_1_6 h, q_0_11 h, q_5_0 h, q_30 h, q_31 h, q_32 h, q_33 h, q_34 h, q_37 h, q_38 h, q_39 h, q_40 h, ite_self, not_false_eq_true, not_true_eq_false, Nat.reduceEqDiff, reduceIte, true_and, and_true, false_and, and_false, ite_true, ite_false]
    clear h10 h11 h12 h13 h14 h15 h16 h17 h18 h19 h hh
    by_cases e2 : T 109 q1.toNatClampNeg = 2
    · obtain ⟨p1, p2, p3⟩ := hp e2
      have p4 := hpe e2
      simp only [e2, p1, p2, p4, zk_lt, zk_le, zlt_m1, zlt_0, zlt_1, zlt_2, zlt_3, zlt_4, zlt_5, zlt_6, zlt_7, zlt_8, zlt_9, zlt_10, zlt_15, zlt_16, zlt_20, zlt_24, zlt_30, zlt_36, zlt_39, zlt_40, zlt_50, zlt_72, zlt_100, zlt_199, zlt_200, zlt_215, zlt_216, zlt_255, zlt_256, zlt_1000, zlt_9999, zlt_65535, zlt_1000000000, Int.lt_iff_add_one_le, zti_ite, zb_0, Decidable.not_not, zif_x1, zif_x2, zif_x3, zif_1x, zif_2x, zif_3x, zite_an, and_assoc, ite_self, not_false_eq_true, not_true_eq_false, Nat.reduceEqDiff, reduceIte, true_and, and_true, false_and, and_false, ite_true, ite_false]
    · have p1 := hq e2
      simp only [e2, p1, zk_lt, zk_le, zlt_m1, zlt_0, zlt_1, zlt_2, zlt_3, zlt_4, zlt_5, zlt_6, zlt_7, zlt_8, zlt_9, zlt_10, zlt_15, zlt_16, zlt_20, zlt_24, zlt_30, zlt_36, zlt_39, zlt_40, zlt_50, zlt_72, zlt_100, zlt_199, zlt_200, zlt_215, zlt_216, zlt_255, zlt_256, zlt_1000, zlt_9999, zlt_65535, zlt_1000000000, Int.lt_iff_add_one_le, zti_ite, zb_0, Decidable.not_not, zif_x1, zif_x2, zif_x3, zif_1x, zif_2x, zif_3x, zite_an, and_assoc, ite_self, not_false_eq_true, not_true_eq_false, Nat.reduceEqDiff, reduceIte, true_and, and_true, false_and, and_false, ite_true, ite_false]
  · (try simp only [F263, F342_0_148, G263, G342_0_148, M22, zup2, zup1, zite2, zite1, upd_r, zmin_i, zt_le (zn_mono (i_Tok_10 h) (by decide)), q_1_6 h, q_0_11 h, q_5_0 h, q_30 h, q_31 h, q_32 h, q_33 h, q_34 h, q_37 h, q_38 h, q_39 h, q_40 h, ite_self, not_false_eq_true, not_true_eq_false, Nat.reduceEqDiff, reduceIte, true_and, and_true, false_and, and_false, ite_true, ite_false])
    first
    | done
    | with_reducible exact h6
    | (simp only [zk_lt, zk_le, zlt_m1, zlt_0, zlt_1, zlt_2, zlt_3, zlt_4, zlt_5, zlt_6, zlt_7, zlt_8, zlt_9, zlt_10, zlt_15, zlt_16, zlt_20, zlt_24, zlt_30, zlt_36, zlt_39, zlt_40, zlt_50, zlt_72, zlt_100, zlt_199, zlt_200, zlt_215, zlt_216, zlt_255, zlt_256, zlt_1000, zlt_9999, zlt_65535, zlt_1000000000, Int.lt_iff_add_one_le, zti_ite, zb_0, Decidable.not_not, zif_x1, zif_x2, zif_x3, zif_1x, zif_2x, zif_3x, zite_an, and_assoc, ite_self, not_false_eq_true, not_true_eq_false, Nat.reduceEqDiff, reduceIte, true_and, and_true, false_and, and_false, ite_true, ite_false]; done)
    | (simp only [zk_lt, zk_le, zlt_m1, zlt_0, zlt_1, zlt_2, zlt_3, zlt_4, zlt_5, zlt_6, zlt_7, zlt_8, zlt_9, zlt_10, zlt_15, zlt_16, zlt_20, zlt_24, zlt_30, zlt_36, zlt_39, zlt_40, zlt_50, zlt_72, zlt_100, zlt_199, zlt_200, zlt_215, zlt_216, zlt_255, zlt_256, zlt_1000, zlt_9999, zlt_65535, zlt_1000000000, Int.lt_iff_add_one_le, zti_ite, zb_0, Decidable.not_not, zif_x1, zif_x2, zif_x3, zif_1x, zif_2x, zif_3x, zite_an, and_assoc, ite_self, not_false_eq_true, not_true_eq_false, Nat.reduceEqDiff, reduceIte, true_and, and_true, false_and, and_false, ite_true, ite_false]; with_reducible exact h6)
    | grind [zb]
  · (try simp only [F263, F342_0_148, G263, G342_0_148, M22, zup2, zup1, zite2, zite1, upd_r, zmin_i, zt_le (zn_mono (i_Tok_10 h) (by decide)), q_1_6 h, q_0_11 h, q_5_0 h, q_30 h, q_31 h, q_32 h, q_33 h, q_34 h, q_37 h, q_38 h, q_39 h, q_40 h, ite_self, not_false_eq_true, not_true_eq_false, Nat.reduceEqDiff, reduceIte, true_and, and_true, false_and, and_false, ite_true, ite_false])
    first
    | done
    | with_reducible exact h7
    | (simp only [zk_lt, zk_le, zlt_m1, zlt_0, zlt_1, zlt_2, zlt_3, zlt_4, zlt_5, zlt_6, zlt_7, zlt_8, zlt_9, zlt_10, zlt_15, zlt_16, zlt_20, zlt_24, zlt_30, zlt_36, zlt_39, zlt_40, zlt_50, zlt_72, zlt_100, zlt_199, zlt_200, zlt_215, zlt_216, zlt_255, zlt_256, zlt_1000, zlt_9999, zlt_65535, zlt_1000000000, Int.lt_iff_add_one_le, zti_ite, zb_0, Decidable.not_not, zif_x1, zif_x2, zif_x3, zif_1x, zif_2x, zif_3x, zite_an, and_assoc, ite_self, not_false_eq_true, not_true_eq_false, Nat.reduceEqDiff, reduceIte, true_and, and_true, false_and, and_false, ite_true, ite_false]; done)
    | (simp only [zk_lt, zk_le, zlt_m1, zlt_0, zlt_1, zlt_2, zlt_3, zlt_4, zlt_5, zlt_6, zlt_7, zlt_8, zlt_9, zlt_10, zlt_15, zlt_16, zlt_20, zlt_24, zlt_30, zlt_36, zlt_39, zlt_40, zlt_50, zlt_72, zlt_100, zlt_199, zlt_200, zlt_215, zlt_216, zlt_255, zlt_256, zlt_1000, zlt_9999, zlt_65535, zlt_1000000000, Int.lt_iff_add_one_le, zti_ite, zb_0, Decidable.not_not, zif_x1, zif_x2, zif_x3, zif_1x, zif_2x, zif_3x, zite_an, and_assoc, ite_self, not_false_eq_true, not_true_eq_false, Nat.reduceEqDiff, reduceIte, true_and, and_true, false_and, and_false, ite_true, ite_false]; with_reducible exact h7)
    | grind [zb]
  · (try simp only [F263, F342_0_148, G263, G342_0_148, M22, zup2, zup1, zite2, zite1, upd_r, zmin_i, zt_le (zn_mono (i_Tok_10 h) (by decide)), q_1_6 h, q_0_11 h, q_5_0 h, q_30 h, q_31 h, q_32 h, q_33 h, q_34 h, q_37 h, q_38 h, q_39 h, q_40 h, ite_self, not_false_eq_true, not_true_eq_false, Nat.reduceEqDiff, reduceIte, true_and, and_true, false_and, and_false, ite_true, ite_false])
    first
    | done
    | with_reducible exact h8
    | (simp only [zk_lt, zk_le, zlt_m1, zlt_0, zlt_1, zlt_2, zlt_3, zlt_4, zlt_5, zlt_6, zlt_7, zlt_8, zlt_9, zlt_10, zlt_15, zlt_16, zlt_20, zlt_24, zlt_30, zlt_36, zlt_39, zlt_40, zlt_50, zlt_72, zlt_100, zlt_199, zlt_200, zlt_215, zlt_216, zlt_255, zlt_256, zlt_1000, zlt_9999, zlt_65535, zlt_1000000000, Int.lt_iff_add_one_le, zti_ite, zb_0, Decidable.not_not, zif_x1, zif_x2, zif_x3, zif_1x, zif_2x, zif_3x, zite_an, and_assoc, ite_self, not_false_eq_true, not_true_eq_false, Nat.reduceEqDiff, reduceIte, true_and, and_true, false_and, and_false, ite_true, ite_false]; done)
    | (simp only [zk_lt, zk_le, zlt_m1, zlt_0, zlt_1, zlt_2, zlt_3, zlt_4, zlt_5, zlt_6, zlt_7, zlt_8, zlt_9, zlt_10, zlt_15, zlt_16, zlt_20, zlt_24, zlt_30, zlt_36, zlt_39, zlt_40, zlt_50, zlt_72, zlt_100, zlt_199, zlt_200, zlt_215, zlt_216, zlt_255, zlt_256, zlt_1000, zlt_9999, zlt_65535, zlt_1000000000, Int.lt_iff_add_one_le, zti_ite, zb_0, Decidable.not_not, zif_x1, zif_x2, zif_x3, zif_1x, zif_2x, zif_3x, zite_an, and_assoc, ite_self, not_false_eq_true, not_true_eq_false, Nat.reduceEqDiff, reduceIte, true_and, and_true, false_and, and_false, ite_true, ite_false]; with_reducible exact h8)
    | grind [zb]
  · (try simp only [F263, F342_0_148, G263, G342_0_148, M22, zup2, zup1, zite2, zite1, upd_r, zmin_i, zt_le (zn_mono (i_Tok_10 h) (by decide)), q_1_6 h, q_0_11 h, q_5_0 h, q_30 h, q_31 h, q_32 h, q_33 h, q_34 h, q_37 h, q_38 h, q_39 h, q_40 h, ite_self, not_false_eq_true, not_true_eq_false, Nat.reduceEqDiff, reduceIte, true_and, and_true, false_and, and_false, ite_true, ite_false])
    first
    | done
    | with_reducible exact h9
    | (simp only [zk_lt, zk_le, zlt_m1, zlt_0, zlt_1, zlt_2, zlt_3, zlt_4, zlt_5, zlt_6, zlt_7, zlt_8, zlt_9, zlt_10, zlt_15, zlt_16, zlt_20, zlt_24, zlt_30, zlt_36, zlt_39, zlt_40, zlt_50, zlt_72, zlt_100, zlt_199, zlt_200, zlt_215, zlt_216, zlt_255, zlt_256, zlt_1000, zlt_9999, zlt_65535, zlt_1000000000, Int.lt_iff_add_one_le, zti_ite, zb_0, Decidable.not_not, zif_x1, zif_x2, zif_x3, zif_1x, zif_2x, zif_3x, zite_an, and_assoc, ite_self, not_false_eq_true, not_true_eq_false, Nat.reduceEqDiff, reduceIte, true_and, and_true, false_and, and_false, ite_true, ite_false]; done)
    | (simp only [zk_lt, zk_le, zlt_m1, zlt_0, zlt_1, zlt_2, zlt_3, zlt_4, zlt_5, zlt_6, zlt_7, zlt_8, zlt_9, zlt_10, zlt_15, zlt_16, zlt_20, zlt_24, zlt_30, zlt_36, zlt_39, zlt_40, zlt_50, zlt_72, zlt_100, zlt_199, zlt_200, zlt_215, zlt_216, zlt_255, zlt_256, zlt_1000, zlt_9999, zlt_65535, zlt_1000000000, Int.lt_iff_add_one_le, zti_ite, zb_0, Decidable.not_not, zif_x1, zif_x2, zif_x3, zif_1x, zif_2x, zif_3x, zite_an, and_assoc, ite_self, not_false_eq_true, not_true_eq_false, Nat.reduceEqDiff, reduceIte, true_and, and_true, false_and, and_false, ite_true, ite_false]; with_reducible exact h9)
    | grind [zb]
  · (try simp only [F263, F342_0_148, G263, G342_0_148, M22, zup2, zup1, zite2, zite1, upd_r, zmin_i, zt_le (zn_mono (i_Tok_10 h) (by decide)), q_1_6 h, q_0_11 h, q_5_0 h, q_30 h, q_31 h, q_32 h, q_33 h, q_34 h, q_37 h, q_38 h, q_39 h, q_40 h, ite_self, not_false_eq_true, not_true_eq_false, Nat.reduceEqDiff, reduceIte, true_and, and_true, false_and, and_false, ite_true, ite_false])
    first
    | done
    | with_reducible exact h10
    | (simp only [zk_lt, zk_le, zlt_m1, zlt_0, zlt_1, zlt_2, zlt_3, zlt_4, zlt_5, zlt_6, zlt_7, zlt_8, zlt_9, zlt_10, zlt_15, zlt_16, zlt_20, zlt_24, zlt_30, zlt_36, zlt_39, zlt_40, zlt_50, zlt_72, zlt_100, zlt_199, zlt_200, zlt_215, zlt_216, zlt_255, zlt_256, zlt_1000, zlt_9999, zlt_65535, zlt_1000000000, Int.lt_iff_add_one_le, zti_ite, zb_0, Decidable.not_not, zif_x1, zif_x2, zif_x3, zif_1x, zif_2x, zif_3x, zite_an, and_assoc, ite_self, not_false_eq_true, not_true_eq_false, Nat.reduceEqDiff, reduceIte, true_and, and_true, false_and, and_false, ite_true, ite_false]; done)
    | (simp only [zk_lt, zk_le, zlt_m1, zlt_0, zlt_1, zlt_2, zlt_3, zlt_4, zlt_5, zlt_6, zlt_7, zlt_8, zlt_9, zlt_10, zlt_15, zlt_16, zlt_20, zlt_24, zlt_30, zlt_36, zlt_39, zlt_40, zlt_50, zlt_72, zlt_100, zlt_199, zlt_200, zlt_215, zlt_216, zlt_255, zlt_256, zlt_1000, zlt_9999, zlt_65535, zlt_1000000000, Int.lt_iff_add_one_le, zti_ite, zb_0, Decidable.not_not, zif_x1, zif_x2, zif_x3, zif_1x, zif_2x, zif_3x, zite_an, and_assoc, ite_self, not_false_eq_true, not_true_eq_false, Nat.reduceEqDiff, reduceIte, true_and, and_true, false_and, and_false, ite_true, ite_false]; with_reducible exact h10)
    | grind [zb]
  · (try simp only [F263, F342_0_148, G263, G342_0_148, M22, zup2, zup1, zite2, zite1, upd_r, zmin_i, zt_le (zn_mono (i_Tok_10 h) (by decide)), q_1_6 h, q_0_11 h, q_5_0 h, q_30 h, q_31 h, q_32 h, q_33 h, q_34 h, q_37 h, q_38 h, q_39 h, q_40 h, ite_self, not_false_eq_true, not_true_eq_false, Nat.reduceEqDiff, reduceIte, true_and, and_true, false_and, and_false, ite_true, ite_false])
    first
    | done
    | with_reducible exact h11
    | (simp only [zk_lt, zk_le, zlt_m1, zlt_0, zlt_1, zlt_2, zlt_3, zlt_4, zlt_5, zlt_6, zlt_7, zlt_8, zlt_9, zlt_10, zlt_15, zlt_16, zlt_20, zlt_24, zlt_30, zlt_36, zlt_39, zlt_40, zlt_50, zlt_72, zlt_100, zlt_199, zlt_200, zlt_215, zlt_216, zlt_255, zlt_256, zlt_1000, zlt_9999, zlt_65535, zlt_1000000000, Int.lt_iff_add_one_le, zti_ite, zb_0, Decidable.not_not, zif_x1, zif_x2, zif_x3, zif_1x, zif_2x, zif_3x, zite_an, and_assoc, ite_self, not_false_eq_true, not_true_eq_false, Nat.reduceEqDiff, reduceIte, true_and, and_true, false_and, and_false, ite_true, ite_false]; done)
    | (simp only [zk_lt, zk_le, zlt_m1, zlt_0, zlt_1, zlt_2, zlt_3, zlt_4, zlt_5, zlt_6, zlt_7, zlt_8, zlt_9, zlt_10, zlt_15, zlt_16, zlt_20, zlt_24, zlt_30, zlt_36, zlt_39, zlt_40, zlt_50, zlt_72, zlt_100, zlt_199, zlt_200, zlt_215, zlt_216, zlt_255, zlt_256, zlt_1000, zlt_9999, zlt_65535, zlt_1000000000, Int.lt_iff_add_one_le, zti_ite, zb_0, Decidable.not_not, zif_x1, zif_x2, zif_x3, zif_1x, zif_2x, zif_3x, zite_an, and_assoc, ite_self, not_false_eq_true, not_true_eq_false, Nat.reduceEqDiff, reduceIte, true_and, and_true, false_and, and_false, ite_true, ite_false]; with_reducible exact h11)
    | (intro j; have hj := h11 j; simp only [zk_lt, zk_le, zlt_m1, zlt_0, zlt_1, zlt_2, zlt_3, zlt_4, zlt_5, zlt_6, zlt_7, zlt_8, zlt_9, zlt_10, zlt_15, zlt_16, zlt_20, zlt_24, zlt_30, zlt_36, zlt_39, zlt_40, zlt_50, zlt_72, zlt_100, zlt_199, zlt_200, zlt_215, zlt_216, zlt_255, zlt_256, zlt_1000, zlt_9999, zlt_65535, zlt_1000000000, Int.lt_iff_add_one_le, zti_ite, zb_0, Decidable.not_not, zif_x1, zif_x2, zif_x3, zif_1x, zif_2x, zif_3x, zite_an, and_assoc, ite_self, not_false_eq_true, not_true_eq_false, Nat.reduceEqDiff, reduceIte, true_and, and_true, false_and, and_false, ite_true, ite_false] at hj ⊢; grind [zb, zo, zn]) | (intro j; have hj := h11 j; grind [zb, zo, zn]) | (intro j; have hj := h11 j; (repeat' split) <;> first | exact hj | grind [zb, zo, zn, zlt_m1]) | grind [zb]
  · (try simp only [F263, F342_0_148, G263, G342_0_148, M22, zup2, zup1, zite2, zite1, upd_r, zmin_i, zt_le (zn_mono (i_Tok_10 h) (by decide)), q_1_6 h, q_0_11 h, q_5_0 h, q_30 h, q_31 h, q_32 h, q_33 h, q_34 h, q_37 h, q_38 h, q_39 h, q_40 h, ite_self, not_false_eq_true, not_true_eq_false, Nat.reduceEqDiff, reduceIte, true_and, and_true, false_and, and_false, ite_true, ite_false])
    first
    | done
    | with_reducible exact h12
    | (simp only [zk_lt, zk_le, zlt_m1, zlt_0, zlt_1, zlt_2, zlt_3, zlt_4, zlt_5, zlt_6, zlt_7, zlt_8, zlt_9, zlt_10, zlt_15, zlt_16, zlt_20, zlt_24, zlt_30, zlt_36, zlt_39, zlt_40, zlt_50, zlt_72, zlt_100, zlt_199, zlt_200, zlt_215, zlt_216, zlt_255, zlt_256, zlt_1000, zlt_9999, zlt_65535, zlt_1000000000, Int.lt_iff_add_one_le, zti_ite, zb_0, Decidable.not_not, zif_x1, zif_x2, zif_x3, zif_1x, zif_2x, zif_3x, zite_an, and_assoc, ite_self, not_false_eq_true, not_true_eq_false, Nat.reduceEqDiff, reduceIte, true_and, and_true, false_and, and_false, ite_true, ite_false]; done)
    | (simp only [zk_lt, zk_le, zlt_m1, zlt_0, zlt_1, zlt_2, zlt_3, zlt_4, zlt_5, zlt_6, zlt_7, zlt_8, zlt_9, zlt_10, zlt_15, zlt_16, zlt_20, zlt_24, zlt_30, zlt_36, zlt_39, zlt_40, zlt_50, zlt_72, zlt_100, zlt_199, zlt_200, zlt_215, zlt_216, zlt_255, zlt_256, zlt_1000, zlt_9999, zlt_65535, zlt_1000000000, Int.lt_iff_add_one_le, zti_ite, zb_0, Decidable.not_not, zif_x1, zif_x2, zif_x3, zif_1x, zif_2x, zif_3x, zite_an, and_assoc, ite_self, not_false_eq_true, not_true_eq_false, Nat.reduceEqDiff, reduceIte, true_and, and_true, false_and, and_false, ite_true, ite_false]; with_reducible exact h12)
    | (intro j; have hj := h12 j; simp only [zk_lt, zk_le, zlt_m1, zlt_0, zlt_1, zlt_2, zlt_3, zlt_4, zlt_5, zlt_6, zlt_7, zlt_8, zlt_9, zlt_10, zlt_15, zlt_16, zlt_20, zlt_24, zlt_30, zlt_36, zlt_39, zlt_40, zlt_50, zlt_72, zlt_100, zlt_199, zlt_200, zlt_215, zlt_216, zlt_255, zlt_256, zlt_1000, zlt_9999, zlt_65535, zlt_1000000000, Int.lt_iff_add_one_le, zti_ite, zb_0, Decidable.not_not, zif_x1, zif_x2, zif_x3, zif_1x, zif_2x, zif_3x, zite_an, and_assoc, ite_self, not_false_eq_true, not_true_eq_false, Nat.reduceEqDiff, reduceIte, true_and, and_true, false_and, and_false, ite_true, ite_false] at hj ⊢; grind [zb, zo, zn]) | (intro j; have hj := h12 j; grind [zb, zo, zn]) | (intro j; have hj := h12 j; (repeat' split) <;> first | exact hj | grind [zb, zo, zn, zlt_m1]) | grind [zb]
  · (try simp only [F263, F342_0_148, G263, G342_0_148, M22, zup2, zup1, zite2, zite1, upd_r, zmin_i, zt_le (zn_mono (i_Tok_10 h) (by decide)), q_1_6 h, q_0_11 h, q_5_0 h, q_30 h, q_31 h, q_32 h, q_33 h, q_34 h, q_37 h, q_38 h, q_39 h, q_40 h, ite_self, not_false_eq_true, not_true_eq_false, Nat.reduceEqDiff, reduceIte, true_and, and_true, false_and, and_false, ite_true, ite_false])
    first
    | done
    | with_reducible exact h13
    | (simp only [zk_lt, zk_le, zlt_m1, zlt_0, zlt_1, zlt_2, zlt_3, zlt_4, zlt_5, zlt_6, zlt_7, zlt_8, zlt_9, zlt_10, zlt_15, zlt_16, zlt_20, zlt_24, zlt_30, zlt_36, zlt_39, zlt_40, zlt_50, zlt_72, zlt_100, zlt_199, zlt_200, zlt_215, zlt_216, zlt_255, zlt_256, zlt_1000, zlt_9999, zlt_65535, zlt_1000000000, Int.lt_iff_add_one_le, zti_ite, zb_0, Decidable.not_not, zif_x1, zif_x2, zif_x3, zif_1x, zif_2x, zif_3x, zite_an, and_assoc, ite_self, not_false_eq_true, not_true_eq_false, Nat.reduceEqDiff, reduceIte, true_and, and_true, false_and, and_false, ite_true, ite_false]; done)
    | (simp only [zk_lt, zk_le, zlt_m1, zlt_0, zlt_1, zlt_2, zlt_3, zlt_4, zlt_5, zlt_6, zlt_7, zlt_8, zlt_9, zlt_10, zlt_15, zlt_16, zlt_20, zlt_24, zlt_30, zlt_36, zlt_39, zlt_40, zlt_50, zlt_72, zlt_100, zlt_199, zlt_200, zlt_215, zlt_216, zlt_255, zlt_256, zlt_1000, zlt_9999, zlt_65535, zlt_1000000000, Int.lt_iff_add_one_le, zti_ite, zb_0, Decidable.not_not, zif_x1, zif_x2, zif_x3, zif_1x, zif_2x, zif_3x, zite_an, and_assoc, ite_self, not_false_eq_true, not_true_eq_false, Nat.reduceEqDiff, reduceIte, true_and, and_true, false_and, and_false, ite_true, ite_false]; with_reducible exact h13)
    | (intro j; have hj := h13 j; simp only [zk_lt, zk_le, zlt_m1, zlt_0, zlt_1, zlt_2, zlt_3, zlt_4, zlt_5, zlt_6, zlt_7, zlt_8, zlt_9, zlt_10, zlt_15, zlt_16, zlt_20, zlt_24, zlt_30, zlt_36, zlt_39, zlt_40, zlt_50, zlt_72, zlt_100, zlt_199, zlt_200, zlt_215, zlt_216, zlt_255, zlt_256, zlt_1000, zlt_9999, zlt_65535, zlt_1000000000, Int.lt_iff_add_one_le, zti_ite, zb_0, Decidable.not_not, zif_x1, zif_x2, zif_x3, zif_1x, zif_2x, zif_3x, zite_an, and_assoc, ite_self, not_false_eq_true, not_true_eq_false, Nat.reduceEqDiff, reduceIte, true_and, and_true, false_and, and_false, ite_true, ite_false] at hj ⊢; grind [zb, zo, zn]) | (intro j; have hj := h13 j; grind [zb, zo, zn]) | (intro j; have hj := h13 j; (repeat' split) <;> first | exact hj | grind [zb, zo, zn, zlt_m1]) | grind [zb]
  · (try simp only [F263, F342_0_148, G263, G342_0_148, M22, zup2, zup1, zite2, zite1, upd_r, zmin_i, zt_le (zn_mono (i_Tok_10 h) (by decide)), q_1_6 h, q_0_11 h, q_5_0 h, q_30 h, q_31 h, q_32 h, q_33 h, q_34 h, q_37 h, q_38 h, q_39 h, q_40 h, ite_self, not_false_eq_true, not_true_eq_false, Nat.reduceEqDiff, reduceIte, true_and, and_true, false_and, and_false, ite_true, ite_false])
    first
    | done
    | with_reducible exact h14
    | (simp only [zk_lt, zk_le, zlt_m1, zlt_0, zlt_1, zlt_2, zlt_3, zlt_4, zlt_5, zlt_6, zlt_7, zlt_8, zlt_9, zlt_10, zlt_15, zlt_16, zlt_20, zlt_24, zlt_30, zlt_36, zlt_39, zlt_40, zlt_50, zlt_72, zlt_100, zlt_199, zlt_200, zlt_215, zlt_216, zlt_255, zlt_256, zlt_1000, zlt_9999, zlt_65535, zlt_1000000000, Int.lt_iff_add_one_le, zti_ite, zb_0, Decidable.not_not, zif_x1, zif_x2, zif_x3, zif_1x, zif_2x, zif_3x, zite_an, and_assoc, ite_self, not_false_eq_true, not_true_eq_false, Nat.reduceEqDiff, reduceIte, true_and, and_true, false_and, and_false, ite_true, ite_false]; done)
    | (simp only [zk_lt, zk_le, zlt_m1, zlt_0, zlt_1, zlt_2, zlt_3, zlt_4, zlt_5, zlt_6, zlt_7, zlt_8, zlt_9, zlt_10, zlt_15, zlt_16, zlt_20, zlt_24, zlt_30, zlt_36, zlt_39, zlt_40, zlt_50, zlt_72, zlt_100, zlt_199, zlt_200, zlt_215, zlt_216, zlt_255, zlt_256, zlt_1000, zlt_9999, zlt_65535, zlt_1000000000, Int.lt_iff_add_one_le, zti_ite, zb_0, Decidable.not_not, zif_x1, zif_x2, zif_x3, zif_1x, zif_2x, zif_3x, zite_an, and_assoc, ite_self, not_false_eq_true, not_true_eq_false, Nat.reduceEqDiff, reduceIte, true_and, and_true, false_and, and_false, ite_true, ite_false]; with_reducible exact h14)
    | (intro j; have hj := h14 j; simp only [zk_lt, zk_le, zlt_m1, zlt_0, zlt_1, zlt_2, zlt_3, zlt_4, zlt_5, zlt_6, zlt_7, zlt_8, zlt_9, zlt_10, zlt_15, zlt_16, zlt_20, zlt_24, zlt_30, zlt_36, zlt_39, zlt_40, zlt_50, zlt_72, zlt_100, zlt_199, zlt_200, zlt_215, zlt_216, zlt_255, zlt_256, zlt_1000, zlt_9999, zlt_65535, zlt_1000000000, Int.lt_iff_add_one_le, zti_ite, zb_0, Decidable.not_not, zif_x1, zif_x2, zif_x3, zif_1x, zif_2x, zif_3x, zite_an, and_assoc, ite_self, not_false_eq_true, not_true_eq_false, Nat.reduceEqDiff, reduceIte, true_and, and_true, false_and, and_false, ite_true, ite_false] at hj ⊢; grind [zb, zo, zn]) | (intro j; have hj := h14 j; grind [zb, zo, zn]) | (intro j; have hj := h14 j; (repeat' split) <;> first | exact hj | grind [zb, zo, zn, zlt_m1]) | grind [zb]
  · (try simp only [F263, F342_0_148, G263, G342_0_148, M22, zup2, zup1, zite2, zite1, upd_r, zmin_i, zt_le (zn_mono (i_Tok_10 h) (by decide)), q_1_6 h, q_0_11 h, q_5_0 h, q_30 h, q_31 h, q_32 h, q_33 h, q_34 h, q_37 h, q_38 h, q_39 h, q_40 h, ite_self, not_false_eq_true, not_true_eq_false, Nat.reduceEqDiff, reduceIte, true_and, and_true, false_and, and_false, ite_true, ite_false])
    first
    | done
    | with_reducible exact h15
    | (simp only [zk_lt, zk_le, zlt_m1, zlt_0, zlt_1, zlt_2, zlt_3, zlt_4, zlt_5, zlt_6, zlt_7, zlt_8, zlt_9, zlt_10, zlt_15, zlt_16, zlt_20, zlt_24, zlt_30, zlt_36, zlt_39, zlt_40, zlt_50, zlt_72, zlt_100, zlt_199, zlt_200, zlt_215, zlt_216, zlt_255, zlt_256, zlt_1000, zlt_9999, zlt_65535, zlt_1000000000, Int.lt_iff_add_one_le, zti_ite, zb_0, Decidable.not_not, zif_x1, zif_x2, zif_x3, zif_1x, zif_2x, zif_3x, zite_an, and_assoc, ite_self, not_false_eq_true, not_true_eq_false, Nat.reduceEqDiff, reduceIte, true_and, and_true, false_and, and_false, ite_true, ite_false]; done)
    | (simp only [zk_lt, zk_le, zlt_m1, zlt_0, zlt_1, zlt_2, zlt_3, zlt_4, zlt_5, zlt_6, zlt_7, zlt_8, zlt_9, zlt_10, zlt_15, zlt_16, zlt_20, zlt_24, zlt_30, zlt_36, zlt_39, zlt_40, zlt_50, zlt_72, zlt_100, zlt_199, zlt_200, zlt_215, zlt_216, zlt_255, zlt_256, zlt_1000, zlt_9999, zlt_65535, zlt_1000000000, Int.lt_iff_add_one_le, zti_ite, zb_0, Decidable.not_not, zif_x1, zif_x2, zif_x3, zif_1x, zif_2x, zif_3x, zite_an, and_assoc, ite_self, not_false_eq_true, not_true_eq_false, Nat.reduceEqDiff, reduceIte, true_and, and_true, false_and, and_false, ite_true, ite_false]; with_reducible exact h15)
    | (intro j; have hj := h15 j; simp only [zk_lt, zk_le, zlt_m1, zlt_0, zlt_1, zlt_2, zlt_3, zlt_4, zlt_5, zlt_6, zlt_7, zlt_8, zlt_9, zlt_10, zlt_15, zlt_16, zlt_20, zlt_24, zlt_30, zlt_36, zlt_39, zlt_40, zlt_50, zlt_72, zlt_100, zlt_199, zlt_200, zlt_215, zlt_216, zlt_255, zlt_256, zlt_1000, zlt_9999, zlt_65535, zlt_1000000000, Int.lt_iff_add_one_le, zti_ite, zb_0, Decidable.not_not, zif_x1, zif_x2, zif_x3, zif_1x, zif_2x, zif_3x, zite_an, and_assoc, ite_self, not_false_eq_true, not_true_eq_false, Nat.reduceEqDiff, reduceIte, true_and, and_true, false_and, and_false, ite_true, ite_false] at hj ⊢; grind [zb, zo, zn]) | (intro j; have hj := h15 j; grind [zb, zo, zn]) | (intro j; have hj := h15 j; (repeat' split) <;> first | exact hj | grind [zb, zo, zn, zlt_m1]) | grind [zb]
  · (try simp only [F263, F342_0_148, G263, G342_0_148, M22, zup2, zup1, zite2, zite1, upd_r, zmin_i, zt_le (zn_mono (i_Tok_10 h) (by decide)), q_1_6 h, q_0_11 h, q_5_0 h, q_30 h, q_31 h, q_32 h, q_33 h, q_34 h, q_37 h, q_38 h, q_39 h, q_40 h, ite_self, not_false_eq_true, not_true_eq_false, Nat.reduceEqDiff, reduceIte, true_and, and_true, false_and, and_false, ite_true, ite_false])
    first
    | done
    | with_reducible exact h16
    | (simp only [zk_lt, zk_le, zlt_m1, zlt_0, zlt_1, zlt_2, zlt_3, zlt_4, zlt_5, zlt_6, zlt_7, zlt_8, zlt_9, zlt_10, zlt_15, zlt_16, zlt_20, zlt_24, zlt_30, zlt_36, zlt_39, zlt_40, zlt_50, zlt_72, zlt_100, zlt_199, zlt_200, zlt_215, zlt_216, zlt_255, zlt_256, zlt_1000, zlt_9999, zlt_65535, zlt_1000000000, Int.lt_iff_add_one_le, zti_ite, zb_0, Decidable.not_not, zif_x1, zif_x2, zif_x3, zif_1x, zif_2x, zif_3x, zite_an, and_assoc, ite_self, not_false_eq_true, not_true_eq_false, Nat.reduceEqDiff, reduceIte, true_and, and_true, false_and, and_false, ite_true, ite_false]; done)
    | (simp only [zk_lt, zk_le, zlt_m1, zlt_0, zlt_1, zlt_2, zlt_3, zlt_4, zlt_5, zlt_6, zlt_7, zlt_8, zlt_9, zlt_10, zlt_15, zlt_16, zlt_20, zlt_24, zlt_30, zlt_36, zlt_39, zlt_40, zlt_50, zlt_72, zlt_100, zlt_199, zlt_200, zlt_215, zlt_216, zlt_255, zlt_256, zlt_1000, zlt_9999, zlt_65535, zlt_1000000000, Int.lt_iff_add_one_le, zti_ite, zb_0, Decidable.not_not, zif_x1, zif_x2, zif_x3, zif_1x, zif_2x, zif_3x, zite_an, and_assoc, ite_self, not_false_eq_true, not_true_eq_false, Nat.reduceEqDiff, reduceIte, true_and, and_true, false_and, and_false, ite_true, ite_false]; with_reducible exact h16)
    | (intro j; have hj := h16 j; simp only [zk_lt, zk_le, zlt_m1, zlt_0, zlt_1, zlt_2, zlt_3, zlt_4, zlt_5, zlt_6, zlt_7, zlt_8, zlt_9, zlt_10, zlt_15, zlt_16, zlt_20, zlt_24, zlt_30, zlt_36, zlt_39, zlt_40, zlt_50, zlt_72, zlt_100, zlt_199, zlt_200, zlt_215, zlt_216, zlt_255, zlt_256, zlt_1000, zlt_9999, zlt_65535, zlt_1000000000, Int.lt_iff_add_one_le, zti_ite, zb_0, Decidable.not_not, zif_x1, zif_x2, zif_x3, zif_1x, zif_2x, zif_3x, zite_an, and_assoc, ite_self, not_false_eq_true, not_true_eq_false, Nat.reduceEqDiff, reduceIte, true_and, and_true, false_and, and_false, ite_true, ite_false] at hj ⊢; grind [zb, zo, zn]) | (intro j; have hj := h16 j; grind [zb, zo, zn]) | (intro j; have hj := h16 j; (repeat' split) <;> first | exact hj | grind [zb, zo, zn, zlt_m1]) | grind [zb]
  · (try simp only [F263, F342_0_148, G263, G342_0_148, M22, zup2, zup1, zite2, zite1, upd_r, zmin_i, zt_le (zn_mono (i_Tok_10 h) (by decide)), q_1_6 h, q_0_11 h, q_5_0 h, q_30 h, q_31 h, q_32 h, q_33 h, q_34 h, q_37 h, q_38 h, q_39 h, q_40 h, ite_self, not_false_eq_true, not_true_eq_false, Nat.reduceEqDiff, reduceIte, true_and, and_true, false_and, and_false, ite_true, ite_false])
    first
    | done
    | with_reducible exact h17
    | (simp only [zk_lt, zk_le, zlt_m1, zlt_0, zlt_1, zlt_2, zlt_3, zlt_4, zlt_5, zlt_6, zlt_7, zlt_8, zlt_9, zlt_10, zlt_15, zlt_16, zlt_20, zlt_24, zlt_30, zlt_36, zlt_39, zlt_40, zlt_50, zlt_72, zlt_100, zlt_199, zlt_200, zlt_215, zlt_216, zlt_255, zlt_256, zlt_1000, zlt_9999, zlt_65535, zlt_1000000000, Int.lt_iff_add_one_le, zti_ite, zb_0, Decidable.not_not, zif_x1, zif_x2, zif_x3, zif_1x, zif_2x, zif_3x, zite_an, and_assoc, ite_self, not_false_eq_true, not_true_eq_false, Nat.reduceEqDiff, reduceIte, true_and, and_true, false_and, and_false, ite_true, ite_false]; done)
    | (simp only [zk_lt, zk_le, zlt_m1, zlt_0, zlt_1, zlt_2, zlt_3, zlt_4, zlt_5, zlt_6, zlt_7, zlt_8, zlt_9, zlt_10, zlt_15, zlt_16, zlt_20, zlt_24, zlt_30, zlt_36, zlt_39, zlt_40, zlt_50, zlt_72, zlt_100, zlt_199, zlt_200, zlt_215, zlt_216, zlt_255, zlt_256, zlt_1000, zlt_9999, zlt_65535, zlt_1000000000, Int.lt_iff_add_one_le, zti_ite, zb_0, Decidable.not_not, zif_x1, zif_x2, zif_x3, zif_1x, zif_2x, zif_3x, zite_an, and_assoc, ite_self, not_false_eq_true, not_true_eq_false, Nat.reduceEqDiff, reduceIte, true_and, and_true, false_and, and_false, ite_true, ite_false]; with_reducible exact h17)
    | (intro j; have hj := h17 j; simp only [zk_lt, zk_le, zlt_m1, zlt_0, zlt_1, zlt_2, zlt_3, zlt_4, zlt_5, zlt_6, zlt_7, zlt_8, zlt_9, zlt_10, zlt_15, zlt_16, zlt_20, zlt_24, zlt_30, zlt_36, zlt_39, zlt_40, zlt_50, zlt_72, zlt_100, zlt_199, zlt_200, zlt_215, zlt_216, zlt_255, zlt_256, zlt_1000, zlt_9999, zlt_65535, zlt_1000000000, Int.lt_iff_add_one_le, zti_ite, zb_0, Decidable.not_not, zif_x1, zif_x2, zif_x3, zif_1x, zif_2x, zif_3x, zite_an, and_assoc, ite_self, not_false_eq_true, not_true_eq_false, Nat.reduceEqDiff, reduceIte, true_and, and_true, false_and, and_false, ite_true, ite_false] at hj ⊢; grind [zb, zo, zn]) | (intro j; have hj := h17 j; grind [zb, zo, zn]) | (intro j; have hj := h17 j; (repeat' split) <;> first | exact hj | grind [zb, zo, zn, zlt_m1]) | grind [zb]
  · (try simp only [F263, F342_0_148, G263, G342_0_148, M22, zup2, zup1, zite2, zite1, upd_r, zmin_i, zt_le (zn_mono (i_Tok_10 h) (by decide)), q_1_6 h, q_0_11 h, q_5_0 h, q_30 h, q_31 h, q_32 h, q_33 h, q_34 h, q_37 h, q_38 h, q_39 h, q_40 h, ite_self, not_false_eq_true, not_true_eq_false, Nat.reduceEqDiff, reduceIte, true_and, and_true, false_and, and_false, ite_true, ite_false])
    first
    | done
    | with_reducible exact h18
    | (simp only [zk_lt, zk_le, zlt_m1, zlt_0, zlt_1, zlt_2, zlt_3, zlt_4, zlt_5, zlt_6, zlt_7, zlt_8, zlt_9, zlt_10, zlt_15, zlt_16, zlt_20, zlt_24, zlt_30, zlt_36, zlt_39, zlt_40, zlt_50, zlt_72, zlt_100, zlt_199, zlt_200, zlt_215, zlt_216, zlt_255, zlt_256, zlt_1000, zlt_9999, zlt_65535, zlt_1000000000, Int.lt_iff_add_one_le, zti_ite, zb_0, Decidable.not_not, zif_x1, zif_x2, zif_x3, zif_1x, zif_2x, zif_3x, zite_an, and_assoc, ite_self, not_false_eq_true, not_true_eq_false, Nat.reduceEqDiff, reduceIte, true_and, and_true, false_and, and_false, ite_true, ite_false]; done)
    | (simp only [zk_lt, zk_le, zlt_m1, zlt_0, zlt_1, zlt_2, zlt_3, zlt_4, zlt_5, zlt_6, zlt_7, zlt_8, zlt_9, zlt_10, zlt_15, zlt_16, zlt_20, zlt_24, zlt_30, zlt_36, zlt_39, zlt_40, zlt_50, zlt_72, zlt_100, zlt_199, zlt_200, zlt_215, zlt_216, zlt_255, zlt_256, zlt_1000, zlt_9999, zlt_65535, zlt_1000000000, Int.lt_iff_add_one_le, zti_ite, zb_0, Decidable.not_not, zif_x1, zif_x2, zif_x3, zif_1x, zif_2x, zif_3x, zite_an, and_assoc, ite_self, not_false_eq_true, not_true_eq_false, Nat.reduceEqDiff, reduceIte, true_and, and_true, false_and, and_false, ite_true, ite_false]; with_reducible exact h18)
    | (intro j; have hj := h18 j; simp only [zk_lt, zk_le, zlt_m1, zlt_0, zlt_1, zlt_2, zlt_3, zlt_4, zlt_5, zlt_6, zlt_7, zlt_8, zlt_9, zlt_10, zlt_15, zlt_16, zlt_20, zlt_24, zlt_30, zlt_36, zlt_39, zlt_40, zlt_50, zlt_72, zlt_100, zlt_199, zlt_200, zlt_215, zlt_216, zlt_255, zlt_256, zlt_1000, zlt_9999, zlt_65535, zlt_1000000000, Int.lt_iff_add_one_le, zti_ite, zb_0, Decidable.not_not, zif_x1, zif_x2, zif_x3, zif_1x, zif_2x, zif_3x, zite_an, and_assoc, ite_self, not_false_eq_true, not_true_eq_false, Nat.reduceEqDiff, reduceIte, true_and, and_true, false_and, and_false, ite_true, ite_false] at hj ⊢; grind [zb, zo, zn]) | (intro j; have hj := h18 j; grind [zb, zo, zn]) | (intro j; have hj := h18 j; (repeat' split) <;> first | exact hj | grind [zb, zo, zn, zlt_m1]) | grind [zb]
  · (try simp only [F263, F342_0_148, G263, G342_0_148, M22, zup2, zup1, zite2, zite1, upd_r, zmin_i, zt_le (zn_mono (i_Tok_10 h) (by decide)), q_1_6 h, q_0_11 h, q_5_0 h, q_30 h, q_31 h, q_32 h, q_33 h, q_34 h, q_37 h, q_38 h, q_39 h, q_40 h, ite_self, not_false_eq_true, not_true_eq_false, Nat.reduceEqDiff, reduceIte, true_and, and_true, false_and, and_false, ite_true, ite_false])
    first
    | done
    | with_reducible exact h19
    | (simp only [zk_lt, zk_le, zlt_m1, zlt_0, zlt_1, zlt_2, zlt_3, zlt_4, zlt_5, zlt_6, zlt_7, zlt_8, zlt_9, zlt_10, zlt_15, zlt_16, zlt_20, zlt_24, zlt_30, zlt_36, zlt_39, zlt_40, zlt_50, zlt_72, zlt_100, zlt_199, zlt_200, zlt_215, zlt_216, zlt_255, zlt_256, zlt_1000, zlt_9999, zlt_65535, zlt_1000000000, Int.lt_iff_add_one_le, zti_ite, zb_0, Decidable.not_not, zif_x1, zif_x2, zif_x3, zif_1x, zif_2x, zif_3x, zite_an, and_assoc, ite_self, not_false_eq_true, not_true_eq_false, Nat.reduceEqDiff, reduceIte, true_and, and_true, false_and, and_false, ite_true, ite_false]; done)
    | (simp only [zk_lt, zk_le, zlt_m1, zlt_0, zlt_1, zlt_2, zlt_3, zlt_4, zlt_5, zlt_6, zlt_7, zlt_8, zlt_9, zlt_10, zlt_15, zlt_16, zlt_20, zlt_24, zlt_30, zlt_36, zlt_39, zlt_40, zlt_50, zlt_72, zlt_100, zlt_199, zlt_200, zlt_215, zlt_216, zlt_255, zlt_256, zlt_1000, zlt_9999, zlt_65535, zlt_1000000000, Int.lt_iff_add_one_le, zti_ite, zb_0, Decidable.not_not, zif_x1, zif_x2, zif_x3, zif_1x, zif_2x, zif_3x, zite_an, and_assoc, ite_self, not_false_eq_true, not_true_eq_false, Nat.reduceEqDiff, reduceIte, true_and, and_true, false_and, and_false, ite_true, ite_false]; with_reducible exact h19)
    | grind [zb]

/-! call 31: the class and the reference answer alike (wip/whole/man/31.txt) -/
set_option maxHeartbeats 200000 in
theorem zyr31 {n : Nat} {S T : zS} (q1 : Int32) (q2 : Int32) (hn : n < 512) (h : zR n S T) : ((G272 q1 q2 T) 13 0) = (F351_0_148 q1 q2 S) ∧ ((F351_0_148 q1 q2 S) = 0 → ((G351_0_148 q1 q2 S) 148 0) = (F272 q1 q2 T)) := by
  simp only [F272, F351_0_148, G272, G351_0_148, zup2, zup1, zite2, zite1, upd_r, q_48 h, ite_self, not_false_eq_true, not_true_eq_false, Nat.reduceEqDiff, reduceIte, true_and, and_true, false_and, and_false, ite_true, ite_false]
  first
  | done
  | (simp only [zk_lt, zk_le, zlt_m1, zlt_0, zlt_1, zlt_2, zlt_3, zlt_4, zlt_5, zlt_6, zlt_7, zlt_8, zlt_9, zlt_10, zlt_15, zlt_16, zlt_20, zlt_24, zlt_30, zlt_36, zlt_39, zlt_40, zlt_50, zlt_72, zlt_100, zlt_199, zlt_200, zlt_215, zlt_216, zlt_255, zlt_256, zlt_1000, zlt_9999, zlt_65535, zlt_1000000000, Int.lt_iff_add_one_le, zti_ite, zb_0, Decidable.not_not, zif_x1, zif_x2, zif_x3, zif_1x, zif_2x, zif_3x, zite_an, and_assoc, ite_self, not_false_eq_true, not_true_eq_false, Nat.reduceEqDiff, reduceIte, true_and, and_true, false_and, and_false, ite_true, ite_false]; done)
  | (simp only [zk_lt, zk_le, zlt_m1, zlt_0, zlt_1, zlt_2, zlt_3, zlt_4, zlt_5, zlt_6, zlt_7, zlt_8, zlt_9, zlt_10, zlt_15, zlt_16, zlt_20, zlt_24, zlt_30, zlt_36, zlt_39, zlt_40, zlt_50, zlt_72, zlt_100, zlt_199, zlt_200, zlt_215, zlt_216, zlt_255, zlt_256, zlt_1000, zlt_9999, zlt_65535, zlt_1000000000, Int.lt_iff_add_one_le, zti_ite, zb_0, Decidable.not_not, zif_x1, zif_x2, zif_x3, zif_1x, zif_2x, zif_3x, zite_an, and_assoc, ite_self, not_false_eq_true, not_true_eq_false, Nat.reduceEqDiff, reduceIte, true_and, and_true, false_and, and_false, ite_true, ite_false]; grind [zb])
  | grind [zb]
set_option maxHeartbeats 200000 in
theorem zyt31_Lea {n : Nat} {S T : zS} (q1 : Int32) (q2 : Int32) (hn : n < 512) (h : zR n S T) : zLea (G351_0_148 q1 q2 S) (M31 q1 q2 T) := by
  have hr := zR_Lea h
  unfold zLea at hr ⊢
  obtain ⟨h0, h1, h2, h3, h4, h5, h6, h7, h8, h9, h10, h11, h12, h13, h14, h15, h16, h17, h18⟩ := hr
  refine ⟨?_, ?_, ?_, ?_, ?_, ?_, ?_, ?_, ?_, ?_, ?_, ?_, ?_, ?_, ?_, ?_, ?_, ?_, ?_⟩
  · (try simp only [F272, F351_0_148, G272, G351_0_148, M31, zup2, zup1, zite2, zite1, upd_r, q_6_0 h, q_41 h, q_42 h, q_43 h, q_44 h, q_45 h, q_46 h, q_47 h, q_48 h, q_49 h, q_50 h, ite_self, not_false_eq_true, not_true_eq_false, Nat.reduceEqDiff, reduceIte, true_and, and_true, false_and, and_false, ite_true, ite_false])
    first
    | done
    | with_reducible exact h0
    | (simp only [zk_lt, zk_le, zlt_m1, zlt_0, zlt_1, zlt_2, zlt_3, zlt_4, zlt_5, zlt_6, zlt_7, zlt_8, zlt_9, zlt_10, zlt_15, zlt_16, zlt_20, zlt_24, zlt_30, zlt_36, zlt_39, zlt_40, zlt_50, zlt_72, zlt_100, zlt_199, zlt_200, zlt_215, zlt_216, zlt_255, zlt_256, zlt_1000, zlt_9999, zlt_65535, zlt_1000000000, Int.lt_iff_add_one_le, zti_ite, zb_0, Decidable.not_not, zif_x1, zif_x2, zif_x3, zif_1x, zif_2x, zif_3x, zite_an, and_assoc, ite_self, not_false_eq_true, not_true_eq_false, Nat.reduceEqDiff, reduceIte, true_and, and_true, false_and, and_false, ite_true, ite_false]; done)
    | (simp only [zk_lt, zk_le, zlt_m1, zlt_0, zlt_1, zlt_2, zlt_3, zlt_4, zlt_5, zlt_6, zlt_7, zlt_8, zlt_9, zlt_10, zlt_15, zlt_16, zlt_20, zlt_24, zlt_30, zlt_36, zlt_39, zlt_40, zlt_50, zlt_72, zlt_100, zlt_199, zlt_200, zlt_215, zlt_216, zlt_255, zlt_256, zlt_1000, zlt_9999, zlt_65535, zlt_1000000000, Int.lt_iff_add_one_le, zti_ite, zb_0, Decidable.not_not, zif_x1, zif_x2, zif_x3, zif_1x, zif_2x, zif_3x, zite_an, and_assoc, ite_self, not_false_eq_true, not_true_eq_false, Nat.reduceEqDiff, reduceIte, true_and, and_true, false_and, and_false, ite_true, ite_false]; with_reducible exact h0)
    | grind [zb]
  · (try simp only [F272, F351_0_148, G272, G351_0_148, M31, zup2, zup1, zite2, zite1, upd_r, q_6_0 h, q_41 h, q_42 h, q_43 h, q_44 h, q_45 h, q_46 h, q_47 h, q_48 h, q_49 h, q_50 h, ite_self, not_false_eq_true, not_true_eq_false, Nat.reduceEqDiff, reduceIte, true_and, and_true, false_and, and_false, ite_true, ite_false])
    first
    | done
    | with_reducible exact h1
    | (simp only [zk_lt, zk_le, zlt_m1, zlt_0, zlt_1, zlt_2, zlt_3, zlt_4, zlt_5, zlt_6, zlt_7, zlt_8, zlt_9, zlt_10, zlt_15, zlt_16, zlt_20, zlt_24, zlt_30, zlt_36, zlt_39, zlt_40, zlt_50, zlt_72, zlt_100, zlt_199, zlt_200, zlt_215, zlt_216, zlt_255, zlt_256, zlt_1000, zlt_9999, zlt_65535, zlt_1000000000, Int.lt_iff_add_one_le, zti_ite, zb_0, Decidable.not_not, zif_x1, zif_x2, zif_x3, zif_1x, zif_2x, zif_3x, zite_an, and_assoc, ite_self, not_false_eq_true, not_true_eq_false, Nat.reduceEqDiff, reduceIte, true_and, and_true, false_and, and_false, ite_true, ite_false]; done)
    | (simp only [zk_lt, zk_le, zlt_m1, zlt_0, zlt_1, zlt_2, zlt_3, zlt_4, zlt_5, zlt_6, zlt_7, zlt_8, zlt_9, zlt_10, zlt_15, zlt_16, zlt_20, zlt_24, zlt_30, zlt_36, zlt_39, zlt_40, zlt_50, zlt_72, zlt_100, zlt_199, zlt_200, zlt_215, zlt_216, zlt_255, zlt_256, zlt_1000, zlt_9999, zlt_65535, zlt_1000000000, Int.lt_iff_add_one_le, zti_ite, zb_0, Decidable.not_not, zif_x1, zif_x2, zif_x3, zif_1x, zif_2x, zif_3x, zite_an, and_assoc, ite_self, not_false_eq_true, not_true_eq_false, Nat.reduceEqDiff, reduceIte, true_and, and_true, false_and, and_false, ite_true, ite_false]; with_reducible exact h1)
    | grind [zb]
  · (try simp only [F272, F351_0_148, G272, G351_0_148, M31, zup2, zup1, zite2, zite1, upd_r, q_6_0 h, q_41 h, q_42 h, q_43 h, q_44 h, q_45 h, q_46 h, q_47 h, q_48 h, q_49 h, q_50 h, ite_self, not_false_eq_true, not_true_eq_false, Nat.reduceEqDiff, reduceIte, true_and, and_true, false_and, and_false, ite_true, ite_false])
    first
    | done
    | with_reducible exact h2
    | (simp only [zk_lt, zk_le, zlt_m1, zlt_0, zlt_1, zlt_2, zlt_3, zlt_4, zlt_5, zlt_6, zlt_7, zlt_8, zlt_9, zlt_10, zlt_15, zlt_16, zlt_20, zlt_24, zlt_30, zlt_36, zlt_39, zlt_40, zlt_50, zlt_72, zlt_100, zlt_199, zlt_200, zlt_215, zlt_216, zlt_255, zlt_256, zlt_1000, zlt_9999, zlt_65535, zlt_1000000000, Int.lt_iff_add_one_le, zti_ite, zb_0, Decidable.not_not, zif_x1, zif_x2, zif_x3, zif_1x, zif_2x, zif_3x, zite_an, and_assoc, ite_self, not_false_eq_true, not_true_eq_false, Nat.reduceEqDiff, reduceIte, true_and, and_true, false_and, and_false, ite_true, ite_false]; done)
    | (simp only [zk_lt, zk_le, zlt_m1, zlt_0, zlt_1, zlt_2, zlt_3, zlt_4, zlt_5, zlt_6, zlt_7, zlt_8, zlt_9, zlt_10, zlt_15, zlt_16, zlt_20, zlt_24, zlt_30, zlt_36, zlt_39, zlt_40, zlt_50, zlt_72, zlt_100, zlt_199, zlt_200, zlt_215, zlt_216, zlt_255, zlt_256, zlt_1000, zlt_9999, zlt_65535, zlt_1000000000, Int.lt_iff_add_one_le, zti_ite, zb_0, Decidable.not_not, zif_x1, zif_x2, zif_x3, zif_1x, zif_2x, zif_3x, zite_an, and_assoc, ite_self, not_false_eq_true, not_true_eq_false, Nat.reduceEqDiff, reduceIte, true_and, and_true, false_and, and_false, ite_true, ite_false]; with_reducible exact h2)
    | grind [zb]
  · (try simp only [F272, F351_0_148, G272, G351_0_148, M31, zup2, zup1, zite2, zite1, upd_r, q_6_0 h, q_41 h, q_42 h, q_43 h, q_44 h, q_45 h, q_46 h, q_47 h, q_48 h, q_49 h, q_50 h, ite_self, not_false_eq_true, not_true_eq_false, Nat.reduceEqDiff, reduceIte, true_and, and_true, false_and, and_false, ite_true, ite_false])
    first
    | done
    | with_reducible exact h3
    | (simp only [zk_lt, zk_le, zlt_m1, zlt_0, zlt_1, zlt_2, zlt_3, zlt_4, zlt_5, zlt_6, zlt_7, zlt_8, zlt_9, zlt_10, zlt_15, zlt_16, zlt_20, zlt_24, zlt_30, zlt_36, zlt_39, zlt_40, zlt_50, zlt_72, zlt_100, zlt_199, zlt_200, zlt_215, zlt_216, zlt_255, zlt_256, zlt_1000, zlt_9999, zlt_65535, zlt_1000000000, Int.lt_iff_add_one_le, zti_ite, zb_0, Decidable.not_not, zif_x1, zif_x2, zif_x3, zif_1x, zif_2x, zif_3x, zite_an, and_assoc, ite_self, not_false_eq_true, not_true_eq_false, Nat.reduceEqDiff, reduceIte, true_and, and_true, false_and, and_false, ite_true, ite_false]; done)
    | (simp only [zk_lt, zk_le, zlt_m1, zlt_0, zlt_1, zlt_2, zlt_3, zlt_4, zlt_5, zlt_6, zlt_7, zlt_8, zlt_9, zlt_10, zlt_15, zlt_16, zlt_20, zlt_24, zlt_30, zlt_36, zlt_39, zlt_40, zlt_50, zlt_72, zlt_100, zlt_199, zlt_200, zlt_215, zlt_216, zlt_255, zlt_256, zlt_1000, zlt_9999, zlt_65535, zlt_1000000000, Int.lt_iff_add_one_le, zti_ite, zb_0, Decidable.not_not, zif_x1, zif_x2, zif_x3, zif_1x, zif_2x, zif_3x, zite_an, and_assoc, ite_self, not_false_eq_true, not_true_eq_false, Nat.reduceEqDiff, reduceIte, true_and, and_true, false_and, and_false, ite_true, ite_false]; with_reducible exact h3)
    | grind [zb]
  · (try simp only [F272, F351_0_148, G272, G351_0_148, M31, zup2, zup1, zite2, zite1, upd_r, q_6_0 h, q_41 h, q_42 h, q_43 h, q_44 h, q_45 h, q_46 h, q_47 h, q_48 h, q_49 h, q_50 h, ite_self, not_false_eq_true, not_true_eq_false, Nat.reduceEqDiff, reduceIte, true_and, and_true, false_and, and_false, ite_true, ite_false])
    first
    | done
    | with_reducible exact h4
    | (simp only [zk_lt, zk_le, zlt_m1, zlt_0, zlt_1, zlt_2, zlt_3, zlt_4, zlt_5, zlt_6, zlt_7, zlt_8, zlt_9, zlt_10, zlt_15, zlt_16, zlt_20, zlt_24, zlt_30, zlt_36, zlt_39, zlt_40, zlt_50, zlt_72, zlt_100, zlt_199, zlt_200, zlt_215, zlt_216, zlt_255, zlt_256, zlt_1000, zlt_9999, zlt_65535, zlt_1000000000, Int.lt_iff_add_one_le, zti_ite, zb_0, Decidable.not_not, zif_x1, zif_x2, zif_x3, zif_1x, zif_2x, zif_3x, zite_an, and_assoc, ite_self, not_false_eq_true, not_true_eq_false, Nat.reduceEqDiff, reduceIte, true_and, and_true, false_and, and_false, ite_true, ite_false]; done)
    | (simp only [zk_lt, zk_le, zlt_m1, zlt_0, zlt_1, zlt_2, zlt_3, zlt_4, zlt_5, zlt_6, zlt_7, zlt_8, zlt_9, zlt_10, zlt_15, zlt_16, zlt_20, zlt_24, zlt_30, zlt_36, zlt_39, zlt_40, zlt_50, zlt_72, zlt_100, zlt_199, zlt_200, zlt_215, zlt_216, zlt_255, zlt_256, zlt_1000, zlt_9999, zlt_65535, zlt_1000000000, Int.lt_iff_add_one_le, zti_ite, zb_0, Decidable.not_not, zif_x1, zif_x2, zif_x3, zif_1x, zif_2x, zif_3x, zite_an, and_assoc, ite_self, not_false_eq_true, not_true_eq_false, Nat.reduceEqDiff, reduceIte, true_and, and_true, false_and, and_false, ite_true, ite_false]; with_reducible exact h4)
    | grind [zb]
  · (try simp only [F272, F351_0_148, G272, G351_0_148, M31, zup2, zup1, zite2, zite1, upd_r, q_6_0 h, q_41 h, q_42 h, q_43 h, q_44 h, q_45 h, q_46 h, q_47 h, q_48 h, q_49 h, q_50 h, ite_self, not_false_eq_true, not_true_eq_false, Nat.reduceEqDiff, reduceIte, true_and, and_true, false_and, and_false, ite_true, ite_false])
    first
    | done
    | with_reducible exact h5
    | (simp only [zk_lt, zk_le, zlt_m1, zlt_0, zlt_1, zlt_2, zlt_3, zlt_4, zlt_5, zlt_6, zlt_7, zlt_8, zlt_9, zlt_10, zlt_15, zlt_16, zlt_20, zlt_24, zlt_30, zlt_36, zlt_39, zlt_40, zlt_50, zlt_72, zlt_100, zlt_199, zlt_200, zlt_215, zlt_216, zlt_255, zlt_256, zlt_1000, zlt_9999, zlt_65535, zlt_1000000000, Int.lt_iff_add_one_le, zti_ite, zb_0, Decidable.not_not, zif_x1, zif_x2, zif_x3, zif_1x, zif_2x, zif_3x, zite_an, and_assoc, ite_self, not_false_eq_true, not_true_eq_false, Nat.reduceEqDiff, reduceIte, true_and, and_true, false_and, and_false, ite_true, ite_false]; done)
    | (simp only [zk_lt, zk_le, zlt_m1, zlt_0, zlt_1, zlt_2, zlt_3, zlt_4, zlt_5, zlt_6, zlt_7, zlt_8, zlt_9, zlt_10, zlt_15, zlt_16, zlt_20, zlt_24, zlt_30, zlt_36, zlt_39, zlt_40, zlt_50, zlt_72, zlt_100, zlt_199, zlt_200, zlt_215, zlt_216, zlt_255, zlt_256, zlt_1000, zlt_9999, zlt_65535, zlt_1000000000, Int.lt_iff_add_one_le, zti_ite, zb_0, Decidable.not_not, zif_x1, zif_x2, zif_x3, zif_1x, zif_2x, zif_3x, zite_an, and_assoc, ite_self, not_false_eq_true, not_true_eq_false, Nat.reduceEqDiff, reduceIte, true_and, and_true, false_and, and_false, ite_true, ite_false]; with_reducible exact h5)
    | grind [zb]
  · (try simp only [F272, F351_0_148, G272, G351_0_148, M31, zup2, zup1, zite2, zite1, upd_r, q_6_0 h, q_41 h, q_42 h, q_43 h, q_44 h, q_45 h, q_46 h, q_47 h, q_48 h, q_49 h, q_50 h, ite_self, not_false_eq_true, not_true_eq_false, Nat.reduceEqDiff, reduceIte, true_and, and_true, false_and, and_false, ite_true, ite_false])
    first
    | done
    | with_reducible exact h6
    | (simp only [zk_lt, zk_le, zlt_m1, zlt_0, zlt_1, zlt_2, zlt_3, zlt_4, zlt_5, zlt_6, zlt_7, zlt_8, zlt_9, zlt_10, zlt_15, zlt_16, zlt_20, zlt_24, zlt_30, zlt_36, zlt_39, zlt_40, zlt_50, zlt_72, zlt_100, zlt_199, zlt_200, zlt_215, zlt_216, zlt_255, zlt_256, zlt_1000, zlt_9999, zlt_65535, zlt_1000000000, Int.lt_iff_add_one_le, zti_ite, zb_0, Decidable.not_not, zif_x1, zif_x2, zif_x3, zif_1x, zif_2x, zif_3x, zite_an, and_assoc, ite_self, not_false_eq_true, not_true_eq_false, Nat.reduceEqDiff, reduceIte, true_and, and_true, false_and, and_false, ite_true, ite_false]; done)
    | (simp only [zk_lt, zk_le, zlt_m1, zlt_0, zlt_1, zlt_2, zlt_3, zlt_4, zlt_5, zlt_6, zlt_7, zlt_8, zlt_9, zlt_10, zlt_15, zlt_16, zlt_20, zlt_24, zlt_30, zlt_36, zlt_39, zlt_40, zlt_50, zlt_72, zlt_100, zlt_199, zlt_200, zlt_215, zlt_216, zlt_255, zlt_256, zlt_1000, zlt_9999, zlt_65535, zlt_1000000000, Int.lt_iff_add_one_le, zti_ite, zb_0, Decidable.not_not, zif_x1, zif_x2, zif_x3, zif_1x, zif_2x, zif_3x, zite_an, and_assoc, ite_self, not_false_eq_true, not_true_eq_false, Nat.reduceEqDiff, reduceIte, true_and, and_true, false_and, and_false, ite_true, ite_false]; with_reducible exact h6)
    | grind [zb]
  · (try simp only [F272, F351_0_148, G272, G351_0_148, M31, zup2, zup1, zite2, zite1, upd_r, q_6_0 h, q_41 h, q_42 h, q_43 h, q_44 h, q_45 h, q_46 h, q_47 h, q_48 h, q_49 h, q_50 h, ite_self, not_false_eq_true, not_true_eq_false, Nat.reduceEqDiff, reduceIte, true_and, and_true, false_and, and_false, ite_true, ite_false])
    first
    | done
    | with_reducible exact h7
    | (simp only [zk_lt, zk_le, zlt_m1, zlt_0, zlt_1, zlt_2, zlt_3, zlt_4, zlt_5, zlt_6, zlt_7, zlt_8, zlt_9, zlt_10, zlt_15, zlt_16, zlt_20, zlt_24, zlt_30, zlt_36, zlt_39, zlt_40, zlt_50, zlt_72, zlt_100, zlt_199, zlt_200, zlt_215, zlt_216, zlt_255, zlt_256, zlt_1000, zlt_9999, zlt_65535, zlt_1000000000, Int.lt_iff_add_one_le, zti_ite, zb_0, Decidable.not_not, zif_x1, zif_x2, zif_x3, zif_1x, zif_2x, zif_3x, zite_an, and_assoc, ite_self, not_false_eq_true, not_true_eq_false, Nat.reduceEqDiff, reduceIte, true_and, and_true, false_and, and_false, ite_true, ite_false]; done)
    | (simp only [zk_lt, zk_le, zlt_m1, zlt_0, zlt_1, zlt_2, zlt_3, zlt_4, zlt_5, zlt_6, zlt_7, zlt_8, zlt_9, zlt_10, zlt_15, zlt_16, zlt_20, zlt_24, zlt_30, zlt_36, zlt_39, zlt_40, zlt_50, zlt_72, zlt_100, zlt_199, zlt_200, zlt_215, zlt_216, zlt_255, zlt_256, zlt_1000, zlt_9999, zlt_65535, zlt_1000000000, Int.lt_iff_add_one_le, zti_ite, zb_0, Decidable.not_not, zif_x1, zif_x2, zif_x3, zif_1x, zif_2x, zif_3x, zite_an, and_assoc, ite_self, not_false_eq_true, not_true_eq_false, Nat.reduceEqDiff, reduceIte, true_and, and_true, false_and, and_false, ite_true, ite_false]; with_reducible exact h7)
    | grind [zb]
  · (try simp only [F272, F351_0_148, G272, G351_0_148, M31, zup2, zup1, zite2, zite1, upd_r, q_6_0 h, q_41 h, q_42 h, q_43 h, q_44 h, q_45 h, q_46 h, q_47 h, q_48 h, q_49 h, q_50 h, ite_self, not_false_eq_true, not_true_eq_false, Nat.reduceEqDiff, reduceIte, true_and, and_true, false_and, and_false, ite_true, ite_false])
    first
    | done
    | with_reducible exact h8
    | (simp only [zk_lt, zk_le, zlt_m1, zlt_0, zlt_1, zlt_2, zlt_3, zlt_4, zlt_5, zlt_6, zlt_7, zlt_8, zlt_9, zlt_10, zlt_15, zlt_16, zlt_20, zlt_24, zlt_30, zlt_36, zlt_39, zlt_40, zlt_50, zlt_72, zlt_100, zlt_199, zlt_200, zlt_215, zlt_216, zlt_255, zlt_256, zlt_1000, zlt_9999, zlt_65535, zlt_1000000000, Int.lt_iff_add_one_le, zti_ite, zb_0, Decidable.not_not, zif_x1, zif_x2, zif_x3, zif_1x, zif_2x, zif_3x, zite_an, and_assoc, ite_self, not_false_eq_true, not_true_eq_false, Nat.reduceEqDiff, reduceIte, true_and, and_true, false_and, and_false, ite_true, ite_false]; done)
    | (simp only [zk_lt, zk_le, zlt_m1, zlt_0, zlt_1, zlt_2, zlt_3, zlt_4, zlt_5, zlt_6, zlt_7, zlt_8, zlt_9, zlt_10, zlt_15, zlt_16, zlt_20, zlt_24, zlt_30, zlt_36, zlt_39, zlt_40, zlt_50, zlt_72, zlt_100, zlt_199, zlt_200, zlt_215, zlt_216, zlt_255, zlt_256, zlt_1000, zlt_9999, zlt_65535, zlt_1000000000, Int.lt_iff_add_one_le, zti_ite, zb_0, Decidable.not_not, zif_x1, zif_x2, zif_x3, zif_1x, zif_2x, zif_3x, zite_an, and_assoc, ite_self, not_false_eq_true, not_true_eq_false, Nat.reduceEqDiff, reduceIte, true_and, and_true, false_and, and_false, ite_true, ite_false]; with_reducible exact h8)
    | grind [zb]
  · (try simp only [F272, F351_0_148, G272, G351_0_148, M31, zup2, zup1, zite2, zite1, upd_r, q_6_0 h, q_41 h, q_42 h, q_43 h, q_44 h, q_45 h, q_46 h, q_47 h, q_48 h, q_49 h, q_50 h, ite_self, not_false_eq_true, not_true_eq_false, Nat.reduceEqDiff, reduceIte, true_and, and_true, false_and, and_false, ite_true, ite_false])
    first
    | done
    | with_reducible exact h9
    | (simp only [zk_lt, zk_le, zlt_m1, zlt_0, zlt_1, zlt_2, zlt_3, zlt_4, zlt_5, zlt_6, zlt_7, zlt_8, zlt_9, zlt_10, zlt_15, zlt_16, zlt_20, zlt_24, zlt_30, zlt_36, zlt_39, zlt_40, zlt_50, zlt_72, zlt_100, zlt_199, zlt_200, zlt_215, zlt_216, zlt_255, zlt_256, zlt_1000, zlt_9999, zlt_65535, zlt_1000000000, Int.lt_iff_add_one_le, zti_ite, zb_0, Decidable.not_not, zif_x1, zif_x2, zif_x3, zif_1x, zif_2x, zif_3x, zite_an, and_assoc, ite_self, not_false_eq_true, not_true_eq_false, Nat.reduceEqDiff, reduceIte, true_and, and_true, false_and, and_false, ite_true, ite_false]; done)
    | (simp only [zk_lt, zk_le, zlt_m1, zlt_0, zlt_1, zlt_2, zlt_3, zlt_4, zlt_5, zlt_6, zlt_7, zlt_8, zlt_9, zlt_10, zlt_15, zlt_16, zlt_20, zlt_24, zlt_30, zlt_36, zlt_39, zlt_40, zlt_50, zlt_72, zlt_100, zlt_199, zlt_200, zlt_215, zlt_216, zlt_255, zlt_256, zlt_1000, zlt_9999, zlt_65535, zlt_1000000000, Int.lt_iff_add_one_le, zti_ite, zb_0, Decidable.not_not, zif_x1, zif_x2, zif_x3, zif_1x, zif_2x, zif_3x, zite_an, and_assoc, ite_self, not_false_eq_true, not_true_eq_false, Nat.reduceEqDiff, reduceIte, true_and, and_true, false_and, and_false, ite_true, ite_false]; with_reducible exact h9)
    | grind [zb]
  · (try simp only [F272, F351_0_148, G272, G351_0_148, M31, zup2, zup1, zite2, zite1, upd_r, q_6_0 h, q_41 h, q_42 h, q_43 h, q_44 h, q_45 h, q_46 h, q_47 h, q_48 h, q_49 h, q_50 h, ite_self, not_false_eq_true, not_true_eq_false, Nat.reduceEqDiff, reduceIte, true_and, and_true, false_and, and_false, ite_true, ite_false])
    first
    | done
    | with_reducible exact h10
    | (simp only [zk_lt, zk_le, zlt_m1, zlt_0, zlt_1, zlt_2, zlt_3, zlt_4, zlt_5, zlt_6, zlt_7, zlt_8, zlt_9, zlt_10, zlt_15, zlt_16, zlt_20, zlt_24, zlt_30, zlt_36, zlt_39, zlt_40, zlt_50, zlt_72, zlt_100, zlt_199, zlt_200, zlt_215, zlt_216, zlt_255, zlt_256, zlt_1000, zlt_9999, zlt_65535, zlt_1000000000, Int.lt_iff_add_one_le, zti_ite, zb_0, Decidable.not_not, zif_x1, zif_x2, zif_x3, zif_1x, zif_2x, zif_3x, zite_an, and_assoc, ite_self, not_false_eq_true, not_true_eq_false, Nat.reduceEqDiff, reduceIte, true_and, and_true, false_and, and_false, ite_true, ite_false]; done)
    | (simp only [zk_lt, zk_le, zlt_m1, zlt_0, zlt_1, zlt_2, zlt_3, zlt_4, zlt_5, zlt_6, zlt_7, zlt_8, zlt_9, zlt_10, zlt_15, zlt_16, zlt_20, zlt_24, zlt_30, zlt_36, zlt_39, zlt_40, zlt_50, zlt_72, zlt_100, zlt_199, zlt_200, zlt_215, zlt_216, zlt_255, zlt_256, zlt_1000, zlt_9999, zlt_65535, zlt_1000000000, Int.lt_iff_add_one_le, zti_ite, zb_0, Decidable.not_not, zif_x1, zif_x2, zif_x3, zif_1x, zif_2x, zif_3x, zite_an, and_assoc, ite_self, not_false_eq_true, not_true_eq_false, Nat.reduceEqDiff, reduceIte, true_and, and_true, false_and, and_false, ite_true, ite_false]; with_reducible exact h10)
    | grind [zb]
  · (try simp only [F272, F351_0_148, G272, G351_0_148, M31, zup2, zup1, zite2, zite1, upd_r, q_6_0 h, q_41 h, q_42 h, q_43 h, q_44 h, q_45 h, q_46 h, q_47 h, q_48 h, q_49 h, q_50 h, ite_self, not_false_eq_true, not_true_eq_false, Nat.reduceEqDiff, reduceIte, true_and, and_true, false_and, and_false, ite_true, ite_false])
    first
    | done
    | with_reducible exact h11
    | (simp only [zk_lt, zk_le, zlt_m1, zlt_0, zlt_1, zlt_2, zlt_3, zlt_4, zlt_5, zlt_6, zlt_7, zlt_8, zlt_9, zlt_10, zlt_15, zlt_16, zlt_20, zlt_24, zlt_30, zlt_36, zlt_39, zlt_40, zlt_50, zlt_72, zlt_100, zlt_199, zlt_200, zlt_215, zlt_216, zlt_255, zlt_256, zlt_1000, zlt_9999, zlt_65535, zlt_1000000000, Int.lt_iff_add_one_le, zti_ite, zb_0, Decidable.not_not, zif_x1, zif_x2, zif_x3, zif_1x, zif_2x, zif_3x, zite_an, and_assoc, ite_self, not_false_eq_true, not_true_eq_false, Nat.reduceEqDiff, reduceIte, true_and, and_true, false_and, and_false, ite_true, ite_false]; done)
    | (simp only [zk_lt, zk_le, zlt_m1, zlt_0, zlt_1, zlt_2, zlt_3, zlt_4, zlt_5, zlt_6, zlt_7, zlt_8, zlt_9, zlt_10, zlt_15, zlt_16, zlt_20, zlt_24, zlt_30, zlt_36, zlt_39, zlt_40, zlt_50, zlt_72, zlt_100, zlt_199, zlt_200, zlt_215, zlt_216, zlt_255, zlt_256, zlt_1000, zlt_9999, zlt_65535, zlt_1000000000, Int.lt_iff_add_one_le, zti_ite, zb_0, Decidable.not_not, zif_x1, zif_x2, zif_x3, zif_1x, zif_2x, zif_3x, zite_an, and_assoc, ite_self, not_false_eq_true, not_true_eq_false, Nat.reduceEqDiff, reduceIte, true_and, and_true, false_and, and_false, ite_true, ite_false]; with_reducible exact h11)
    | grind [zb]
  · (try simp only [F272, F351_0_148, G272, G351_0_148, M31, zup2, zup1, zite2, zite1, upd_r, q_6_0 h, q_41 h, q_42 h, q_43 h, q_44 h, q_45 h, q_46 h, q_47 h, q_48 h, q_49 h, q_50 h, ite_self, not_false_eq_true, not_true_eq_false, Nat.reduceEqDiff, reduceIte, true_and, and_true, false_and, and_false, ite_true, ite_false])
    first
    | done
    | with_reducible exact h12
    | (simp only [zk_lt, zk_le, zlt_m1, zlt_0, zlt_1, zlt_2, zlt_3, zlt_4, zlt_5, zlt_6, zlt_7, zlt_8, zlt_9, zlt_10, zlt_15, zlt_16, zlt_20, zlt_24, zlt_30, zlt_36, zlt_39, zlt_40, zlt_50, zlt_72, zlt_100, zlt_199, zlt_200, zlt_215, zlt_216, zlt_255, zlt_256, zlt_1000, zlt_9999, zlt_65535, zlt_1000000000, Int.lt_iff_add_one_le, zti_ite, zb_0, Decidable.not_not, zif_x1, zif_x2, zif_x3, zif_1x, zif_2x, zif_3x, zite_an, and_assoc, ite_self, not_false_eq_true, not_true_eq_false, Nat.reduceEqDiff, reduceIte, true_and, and_true, false_and, and_false, ite_true, ite_false]; done)
    | (simp only [zk_lt, zk_le, zlt_m1, zlt_0, zlt_1, zlt_2, zlt_3, zlt_4, zlt_5, zlt_6, zlt_7, zlt_8, zlt_9, zlt_10, zlt_15, zlt_16, zlt_20, zlt_24, zlt_30, zlt_36, zlt_39, zlt_40, zlt_50, zlt_72, zlt_100, zlt_199, zlt_200, zlt_215, zlt_216, zlt_255, zlt_256, zlt_1000, zlt_9999, zlt_65535, zlt_1000000000, Int.lt_iff_add_one_le, zti_ite, zb_0, Decidable.not_not, zif_x1, zif_x2, zif_x3, zif_1x, zif_2x, zif_3x, zite_an, and_assoc, ite_self, not_false_eq_true, not_true_eq_false, Nat.reduceEqDiff, reduceIte, true_and, and_true, false_and, and_false, ite_true, ite_false]; with_reducible exact h12)
    | grind [zb]
  · (try simp only [F272, F351_0_148, G272, G351_0_148, M31, zup2, zup1, zite2, zite1, upd_r, q_6_0 h, q_41 h, q_42 h, q_43 h, q_44 h, q_45 h, q_46 h, q_47 h, q_48 h, q_49 h, q_50 h, ite_self, not_false_eq_true, not_true_eq_false, Nat.reduceEqDiff, reduceIte, true_and, and_true, false_and, and_false, ite_true, ite_false])
    first
    | done
    | with_reducible exact h13
    | (simp only [zk_lt, zk_le, zlt_m1, zlt_0, zlt_1, zlt_2, zlt_3, zlt_4, zlt_5, zlt_6, zlt_7, zlt_8, zlt_9, zlt_10, zlt_15, zlt_16, zlt_20, zlt_24, zlt_30, zlt_36, zlt_39, zlt_40, zlt_50, zlt_72, zlt_100, zlt_199, zlt_200, zlt_215, zlt_216, zlt_255, zlt_256, zlt_1000, zlt_9999, zlt_65535, zlt_1000000000, Int.lt_iff_add_one_le, zti_ite, zb_0, Decidable.not_not, zif_x1, zif_x2, zif_x3, zif_1x, zif_2x, zif_3x, zite_an, and_assoc, ite_self, not_false_eq_true, not_true_eq_false, Nat.reduceEqDiff, reduceIte, true_and, and_true, false_and, and_false, ite_true, ite_false]; done)
    | (simp only [zk_lt, zk_le, zlt_m1, zlt_0, zlt_1, zlt_2, zlt_3, zlt_4, zlt_5, zlt_6, zlt_7, zlt_8, zlt_9, zlt_10, zlt_15, zlt_16, zlt_20, zlt_24, zlt_30, zlt_36, zlt_39, zlt_40, zlt_50, zlt_72, zlt_100, zlt_199, zlt_200, zlt_215, zlt_216, zlt_255, zlt_256, zlt_1000, zlt_9999, zlt_65535, zlt_1000000000, Int.lt_iff_add_one_le, zti_ite, zb_0, Decidable.not_not, zif_x1, zif_x2, zif_x3, zif_1x, zif_2x, zif_3x, zite_an, and_assoc, ite_self, not_false_eq_true, not_true_eq_false, Nat.reduceEqDiff, reduceIte, true_and, and_true, false_and, and_false, ite_true, ite_false]; with_reducible exact h13)
    | grind [zb]
  · (try simp only [F272, F351_0_148, G272, G351_0_148, M31, zup2, zup1, zite2, zite1, upd_r, q_6_0 h, q_41 h, q_42 h, q_43 h, q_44 h, q_45 h, q_46 h, q_47 h, q_48 h, q_49 h, q_50 h, ite_self, not_false_eq_true, not_true_eq_false, Nat.reduceEqDiff, reduceIte, true_and, and_true, false_and, and_false, ite_true, ite_false])
    first
    | done
    | with_reducible exact h14
    | (simp only [zk_lt, zk_le, zlt_m1, zlt_0, zlt_1, zlt_2, zlt_3, zlt_4, zlt_5, zlt_6, zlt_7, zlt_8, zlt_9, zlt_10, zlt_15, zlt_16, zlt_20, zlt_24, zlt_30, zlt_36, zlt_39, zlt_40, zlt_50, zlt_72, zlt_100, zlt_199, zlt_200, zlt_215, zlt_216, zlt_255, zlt_256, zlt_1000, zlt_9999, zlt_65535, zlt_1000000000, Int.lt_iff_add_one_le, zti_ite, zb_0, Decidable.not_not, zif_x1, zif_x2, zif_x3, zif_1x, zif_2x, zif_3x, zite_an, and_assoc, ite_self, not_false_eq_true, not_true_eq_false, Nat.reduceEqDiff, reduceIte, true_and, and_true, false_and, and_false, ite_true, ite_false]; done)
    | (simp only [zk_lt, zk_le, zlt_m1, zlt_0, zlt_1, zlt_2, zlt_3, zlt_4, zlt_5, zlt_6, zlt_7, zlt_8, zlt_9, zlt_10, zlt_15, zlt_16, zlt_20, zlt_24, zlt_30, zlt_36, zlt_39, zlt_40, zlt_50, zlt_72, zlt_100, zlt_199, zlt_200, zlt_215, zlt_216, zlt_255, zlt_256, zlt_1000, zlt_9999, zlt_65535, zlt_1000000000, Int.lt_iff_add_one_le, zti_ite, zb_0, Decidable.not_not, zif_x1, zif_x2, zif_x3, zif_1x, zif_2x, zif_3x, zite_an, and_assoc, ite_self, not_false_eq_true, not_true_eq_false, Nat.reduceEqDiff, reduceIte, true_and, and_true, false_and, and_false, ite_true, ite_false]; with_reducible exact h14)
    | grind [zb]
  · (try simp only [F272, F351_0_148, G272, G351_0_148, M31, zup2, zup1, zite2, zite1, upd_r, q_6_0 h, q_41 h, q_42 h, q_43 h, q_44 h, q_45 h, q_46 h, q_47 h, q_48 h, q_49 h, q_50 h, ite_self, not_false_eq_true, not_true_eq_false, Nat.reduceEqDiff, reduceIte, true_and, and_true, false_and, and_false, ite_true, ite_false])
    first
    | done
    | with_reducible exact h15
    | (simp only [zk_lt, zk_le, zlt_m1, zlt_0, zlt_1, zlt_2, zlt_3, zlt_4, zlt_5, zlt_6, zlt_7, zlt_8, zlt_9, zlt_10, zlt_15, zlt_16, zlt_20, zlt_24, zlt_30, zlt_36, zlt_39, zlt_40, zlt_50, zlt_72, zlt_100, zlt_199, zlt_200, zlt_215, zlt_216, zlt_255, zlt_256, zlt_1000, zlt_9999, zlt_65535, zlt_1000000000, Int.lt_iff_add_one_le, zti_ite, zb_0, Decidable.not_not, zif_x1, zif_x2, zif_x3, zif_1x, zif_2x, zif_3x, zite_an, and_assoc, ite_self, not_false_eq_true, not_true_eq_false, Nat.reduceEqDiff, reduceIte, true_and, and_true, false_and, and_false, ite_true, ite_false]; done)
    | (simp only [zk_lt, zk_le, zlt_m1, zlt_0, zlt_1, zlt_2, zlt_3, zlt_4, zlt_5, zlt_6, zlt_7, zlt_8, zlt_9, zlt_10, zlt_15, zlt_16, zlt_20, zlt_24, zlt_30, zlt_36, zlt_39, zlt_40, zlt_50, zlt_72, zlt_100, zlt_199, zlt_200, zlt_215, zlt_216, zlt_255, zlt_256, zlt_1000, zlt_9999, zlt_65535, zlt_1000000000, Int.lt_iff_add_one_le, zti_ite, zb_0, Decidable.not_not, zif_x1, zif_x2, zif_x3, zif_1x, zif_2x, zif_3x, zite_an, and_assoc, ite_self, not_false_eq_true, not_true_eq_false, Nat.reduceEqDiff, reduceIte, true_and, and_true, false_and, and_false, ite_true, ite_false]; with_reducible exact h15)
    | (intro j; have hj := h15 j; simp only [zk_lt, zk_le, zlt_m1, zlt_0, zlt_1, zlt_2, zlt_3, zlt_4, zlt_5, zlt_6, zlt_7, zlt_8, zlt_9, zlt_10, zlt_15, zlt_16, zlt_20, zlt_24, zlt_30, zlt_36, zlt_39, zlt_40, zlt_50, zlt_72, zlt_100, zlt_199, zlt_200, zlt_215, zlt_216, zlt_255, zlt_256, zlt_1000, zlt_9999, zlt_65535, zlt_1000000000, Int.lt_iff_add_one_le, zti_ite, zb_0, Decidable.not_not, zif_x1, zif_x2, zif_x3, zif_1x, zif_2x, zif_3x, zite_an, and_assoc, ite_self, not_false_eq_true, not_true_eq_false, Nat.reduceEqDiff, reduceIte, true_and, and_true, false_and, and_false, ite_true, ite_false] at hj ⊢; grind [zb, zo, zn]) | (intro j; have hj := h15 j; grind [zb, zo, zn]) | (intro j; have hj := h15 j; (repeat' split) <;> first | exact hj | grind [zb, zo, zn, zlt_m1]) | grind [zb]
  · (try simp only [F272, F351_0_148, G272, G351_0_148, M31, zup2, zup1, zite2, zite1, upd_r, q_6_0 h, q_41 h, q_42 h, q_43 h, q_44 h, q_45 h, q_46 h, q_47 h, q_48 h, q_49 h, q_50 h, ite_self, not_false_eq_true, not_true_eq_false, Nat.reduceEqDiff, reduceIte, true_and, and_true, false_and, and_false, ite_true, ite_false])
    first
    | done
    | with_reducible exact h16
    | (simp only [zk_lt, zk_le, zlt_m1, zlt_0, zlt_1, zlt_2, zlt_3, zlt_4, zlt_5, zlt_6, zlt_7, zlt_8, zlt_9, zlt_10, zlt_15, zlt_16, zlt_20, zlt_24, zlt_30, zlt_36, zlt_39, zlt_40, zlt_50, zlt_72, zlt_100, zlt_199, zlt_200, zlt_215, zlt_216, zlt_255, zlt_256, zlt_1000, zlt_9999, zlt_65535, zlt_1000000000, Int.lt_iff_add_one_le, zti_ite, zb_0, Decidable.not_not, zif_x1, zif_x2, zif_x3, zif_1x, zif_2x, zif_3x, zite_an, and_assoc, ite_self, not_false_eq_true, not_true_eq_false, Nat.reduceEqDiff, reduceIte, true_and, and_true, false_and, and_false, ite_true, ite_false]; done)
    | (simp only [zk_lt, zk_le, zlt_m1, zlt_0, zlt_1, zlt_2, zlt_3, zlt_4, zlt_5, zlt_6, zlt_7, zlt_8, zlt_9, zlt_10, zlt_15, zlt_16, zlt_20, zlt_24, zlt_30, zlt_36, zlt_39, zlt_40, zlt_50, zlt_72, zlt_100, zlt_199, zlt_200, zlt_215, zlt_216, zlt_255, zlt_256, zlt_1000, zlt_9999, zlt_65535, zlt_1000000000, Int.lt_iff_add_one_le, zti_ite, zb_0, Decidable.not_not, zif_x1, zif_x2, zif_x3, zif_1x, zif_2x, zif_3x, zite_an, and_assoc, ite_self, not_false_eq_true, not_true_eq_false, Nat.reduceEqDiff, reduceIte, true_and, and_true, false_and, and_false, ite_true, ite_false]; with_reducible exact h16)
    | (intro j; have hj := h16 j; simp only [zk_lt, zk_le, zlt_m1, zlt_0, zlt_1, zlt_2, zlt_3, zlt_4, zlt_5, zlt_6, zlt_7, zlt_8, zlt_9, zlt_10, zlt_15, zlt_16, zlt_20, zlt_24, zlt_30, zlt_36, zlt_39, zlt_40, zlt_50, zlt_72, zlt_100, zlt_199, zlt_200, zlt_215, zlt_216, zlt_255, zlt_256, zlt_1000, zlt_9999, zlt_65535, zlt_1000000000, Int.lt_iff_add_one_le, zti_ite, zb_0, Decidable.not_not, zif_x1, zif_x2, zif_x3, zif_1x, zif_2x, zif_3x, zite_an, and_assoc, ite_self, not_false_eq_true, not_true_eq_false, Nat.reduceEqDiff, reduceIte, true_and, and_true, false_and, and_false, ite_true, ite_false] at hj ⊢; grind [zb, zo, zn]) | (intro j; have hj := h16 j; grind [zb, zo, zn]) | (intro j; have hj := h16 j; (repeat' split) <;> first | exact hj | grind [zb, zo, zn, zlt_m1]) | grind [zb]
  · simp only [F272, F351_0_148, G272, G351_0_148, M31, zup2, zup1, zite2, zite1, upd_r, q_6_0 h, q_41 h, q_42 h, q_43 h, q_44 h, q_45 h, q_46 h, q_47 h, q_48 h, q_49 h, q_50 h, ite_self, not_false_eq_true, not_true_eq_false, Nat.reduceEqDiff, reduceIte, true_and, and_true, false_and, and_false, ite_true, ite_false]
    intro j hj; have hk := h17 j hj; clear h11 h12 h13 h14 h15 h16 h17 h18; unfold zn at *; simp only [zk_lt, zk_le, zlt_m1, zlt_0, zlt_1, zlt_2, zlt_3, zlt_4, zlt_5, zlt_6, zlt_7, zlt_8, zlt_9, zlt_10, zlt_15, zlt_16, zlt_20, zlt_24, zlt_30, zlt_36, zlt_39, zlt_40, zlt_50, zlt_72, zlt_100, zlt_199, zlt_200, zlt_215, zlt_216, zlt_255, zlt_256, zlt_1000, zlt_9999, zlt_65535, zlt_1000000000, Int.lt_iff_add_one_le, zti_ite, zb_0, Decidable.not_not, zif_x1, zif_x2, zif_x3, zif_1x, zif_2x, zif_3x, zite_an, and_assoc, ite_self, not_false_eq_true, not_true_eq_false, Nat.reduceEqDiff, reduceIte, true_and, and_true, false_and, and_false, ite_true, ite_false] at *; grind
  · (try simp only [F272, F351_0_148, G272, G351_0_148, M31, zup2, zup1, zite2, zite1, upd_r, q_6_0 h, q_41 h, q_42 h, q_43 h, q_44 h, q_45 h, q_46 h, q_47 h, q_48 h, q_49 h, q_50 h, ite_self, not_false_eq_true, not_true_eq_false, Nat.reduceEqDiff, reduceIte, true_and, and_true, false_and, and_false, ite_true, ite_false])
    first
    | done
    | with_reducible exact h18
    | (simp only [zk_lt, zk_le, zlt_m1, zlt_0, zlt_1, zlt_2, zlt_3, zlt_4, zlt_5, zlt_6, zlt_7, zlt_8, zlt_9, zlt_10, zlt_15, zlt_16, zlt_20, zlt_24, zlt_30, zlt_36, zlt_39, zlt_40, zlt_50, zlt_72, zlt_100, zlt_199, zlt_200, zlt_215, zlt_216, zlt_255, zlt_256, zlt_1000, zlt_9999, zlt_65535, zlt_1000000000, Int.lt_iff_add_one_le, zti_ite, zb_0, Decidable.not_not, zif_x1, zif_x2, zif_x3, zif_1x, zif_2x, zif_3x, zite_an, and_assoc, ite_self, not_false_eq_true, not_true_eq_false, Nat.reduceEqDiff, reduceIte, true_and, and_true, false_and, and_false, ite_true, ite_false]; done)
    | (simp only [zk_lt, zk_le, zlt_m1, zlt_0, zlt_1, zlt_2, zlt_3, zlt_4, zlt_5, zlt_6, zlt_7, zlt_8, zlt_9, zlt_10, zlt_15, zlt_16, zlt_20, zlt_24, zlt_30, zlt_36, zlt_39, zlt_40, zlt_50, zlt_72, zlt_100, zlt_199, zlt_200, zlt_215, zlt_216, zlt_255, zlt_256, zlt_1000, zlt_9999, zlt_65535, zlt_1000000000, Int.lt_iff_add_one_le, zti_ite, zb_0, Decidable.not_not, zif_x1, zif_x2, zif_x3, zif_1x, zif_2x, zif_3x, zite_an, and_assoc, ite_self, not_false_eq_true, not_true_eq_false, Nat.reduceEqDiff, reduceIte, true_and, and_true, false_and, and_false, ite_true, ite_false]; with_reducible exact h18)
    | (intro j; have hj := h18 j; simp only [zk_lt, zk_le, zlt_m1, zlt_0, zlt_1, zlt_2, zlt_3, zlt_4, zlt_5, zlt_6, zlt_7, zlt_8, zlt_9, zlt_10, zlt_15, zlt_16, zlt_20, zlt_24, zlt_30, zlt_36, zlt_39, zlt_40, zlt_50, zlt_72, zlt_100, zlt_199, zlt_200, zlt_215, zlt_216, zlt_255, zlt_256, zlt_1000, zlt_9999, zlt_65535, zlt_1000000000, Int.lt_iff_add_one_le, zti_ite, zb_0, Decidable.not_not, zif_x1, zif_x2, zif_x3, zif_1x, zif_2x, zif_3x, zite_an, and_assoc, ite_self, not_false_eq_true, not_true_eq_false, Nat.reduceEqDiff, reduceIte, true_and, and_true, false_and, and_false, ite_true, ite_false] at hj ⊢; grind [zb, zo, zn]) | (intro j; have hj := h18 j; grind [zb, zo, zn]) | (intro j; have hj := h18 j; (repeat' split) <;> first | exact hj | grind [zb, zo, zn, zlt_m1]) | grind [zb]

/-! call 33: the class and the reference answer alike (wip/whole/man/33.txt) -/
set_option maxHeartbeats 200000 in
theorem zyr33 {n : Nat} {S T : zS} (q1 : Int32) (q2 : Int32) (hn : n < 512) (h : zR n S T) : ((G274 q1 q2 T) 13 0) = (F353_0_148 q1 q2 S) ∧ ((F353_0_148 q1 q2 S) = 0 → ((G353_0_148 q1 q2 S) 148 0) = (F274 q1 q2 T)) := by
  simp only [F274, F353_0_148, G274, G353_0_148, zup2, zup1, zite2, zite1, upd_r, zmin_3, zt_le (zn_mono (i_Lea_11 h) (by decide)), q_1_6 h, q_0_11 h, q_34 h, q_6_0 h, q_41 h, q_44 h, q_45 h, q_46 h, ite_self, not_false_eq_true, not_true_eq_false, Nat.reduceEqDiff, reduceIte, true_and, and_true, false_and, and_false, ite_true, ite_false]
  first
  | done
  | (simp only [zk_lt, zk_le, zlt_m1, zlt_0, zlt_1, zlt_2, zlt_3, zlt_4, zlt_5, zlt_6, zlt_7, zlt_8, zlt_9, zlt_10, zlt_15, zlt_16, zlt_20, zlt_24, zlt_30, zlt_36, zlt_39, zlt_40, zlt_50, zlt_72, zlt_100, zlt_199, zlt_200, zlt_215, zlt_216, zlt_255, zlt_256, zlt_1000, zlt_9999, zlt_65535, zlt_1000000000, Int.lt_iff_add_one_le, zti_ite, zb_0, Decidable.not_not, zif_x1, zif_x2, zif_x3, zif_1x, zif_2x, zif_3x, zite_an, and_assoc, ite_self, not_false_eq_true, not_true_eq_false, Nat.reduceEqDiff, reduceIte, true_and, and_true, false_and, and_false, ite_true, ite_false]; done)
  | (simp only [zk_lt, zk_le, zlt_m1, zlt_0, zlt_1, zlt_2, zlt_3, zlt_4, zlt_5, zlt_6, zlt_7, zlt_8, zlt_9, zlt_10, zlt_15, zlt_16, zlt_20, zlt_24, zlt_30, zlt_36, zlt_39, zlt_40, zlt_50, zlt_72, zlt_100, zlt_199, zlt_200, zlt_215, zlt_216, zlt_255, zlt_256, zlt_1000, zlt_9999, zlt_65535, zlt_1000000000, Int.lt_iff_add_one_le, zti_ite, zb_0, Decidable.not_not, zif_x1, zif_x2, zif_x3, zif_1x, zif_2x, zif_3x, zite_an, and_assoc, ite_self, not_false_eq_true, not_true_eq_false, Nat.reduceEqDiff, reduceIte, true_and, and_true, false_and, and_false, ite_true, ite_false]; grind [zb])
  | grind [zb]
set_option maxHeartbeats 200000 in
theorem zyt33_Lea {n : Nat} {S T : zS} (q1 : Int32) (q2 : Int32) (hn : n < 512) (h : zR n S T) : zLea (G353_0_148 q1 q2 S) (M33 q1 q2 T) := by
  have hr := zR_Lea h
  unfold zLea at hr ⊢
  obtain ⟨h0, h1, h2, h3, h4, h5, h6, h7, h8, h9, h10, h11, h12, h13, h14, h15, h16, h17, h18⟩ := hr
  refine ⟨?_, ?_, ?_, ?_, ?_, ?_, ?_, ?_, ?_, ?_, ?_, ?_, ?_, ?_, ?_, ?_, ?_, ?_, ?_⟩
  · (try simp only [F274, F353_0_148, G274, G353_0_148, M33, zup2, zup1, zite2, zite1, upd_r, zmin_3, zt_le (zn_mono (i_Lea_11 h) (by decide)), q_1_6 h, q_0_11 h, q_34 h, q_6_0 h, q_41 h, q_42 h, q_43 h, q_44 h, q_45 h, q_46 h, q_47 h, q_48 h, q_49 h, q_50 h, ite_self, not_false_eq_true, not_true_eq_false, Nat.reduceEqDiff, reduceIte, true_and, and_true, false_and, and_false, ite_true, ite_false])
    first
    | done
    | with_reducible exact h0
    | (simp only [zk_lt, zk_le, zlt_m1, zlt_0, zlt_1, zlt_2, zlt_3, zlt_4, zlt_5, zlt_6, zlt_7, zlt_8, zlt_9, zlt_10, zlt_15, zlt_16, zlt_20, zlt_24, zlt_30, zlt_36, zlt_39, zlt_40, zlt_50, zlt_72, zlt_100, zlt_199, zlt_200, zlt_215, zlt_216, zlt_255, zlt_256, zlt_1000, zlt_9999, zlt_65535, zlt_1000000000, Int.lt_iff_add_one_le, zti_ite, zb_0, Decidable.not_not, zif_x1, zif_x2, zif_x3, zif_1x, zif_2x, zif_3x, zite_an, and_assoc, ite_self, not_false_eq_true, not_true_eq_false, Nat.reduceEqDiff, reduceIte, true_and, and_true, false_and, and_false, ite_true, ite_false]; done)
    | (simp only [zk_lt, zk_le, zlt_m1, zlt_0, zlt_1, zlt_2, zlt_3, zlt_4, zlt_5, zlt_6, zlt_7, zlt_8, zlt_9, zlt_10, zlt_15, zlt_16, zlt_20, zlt_24, zlt_30, zlt_36, zlt_39, zlt_40, zlt_50, zlt_72, zlt_100, zlt_199, zlt_200, zlt_215, zlt_216, zlt_255, zlt_256, zlt_1000, zlt_9999, zlt_65535, zlt_1000000000, Int.lt_iff_add_one_le, zti_ite, zb_0, Decidable.not_not, zif_x1, zif_x2, zif_x3, zif_1x, zif_2x, zif_3x, zite_an, and_assoc, ite_self, not_false_eq_true, not_true_eq_false, Nat.reduceEqDiff, reduceIte, true_and, and_true, false_and, and_false, ite_true, ite_false]; with_reducible exact h0)
    | grind [zb]
  · (try simp only [F274, F353_0_148, G274, G353_0_148, M33, zup2, zup1, zite2, zite1, upd_r, zmin_3, zt_le (zn_mono (i_Lea_11 h) (by decide)), q_1_6 h, q_0_11 h, q_34 h, q_6_0 h, q_41 h, q_42 h, q_43 h, q_44 h, q_45 h, q_46 h, q_47 h, q_48 h, q_49 h, q_50 h, ite_self, not_false_eq_true, not_true_eq_false, Nat.reduceEqDiff, reduceIte, true_and, and_true, false_and, and_false, ite_true, ite_false])
    first
    | done
    | with_reducible exact h1
    | (simp only [zk_lt, zk_le, zlt_m1, zlt_0, zlt_1, zlt_2, zlt_3, zlt_4, zlt_5, zlt_6, zlt_7, zlt_8, zlt_9, zlt_10, zlt_15, zlt_16, zlt_20, zlt_24, zlt_30, zlt_36, zlt_39, zlt_40, zlt_50, zlt_72, zlt_100, zlt_199, zlt_200, zlt_215, zlt_216, zlt_255, zlt_256, zlt_1000, zlt_9999, zlt_65535, zlt_1000000000, Int.lt_iff_add_one_le, zti_ite, zb_0, Decidable.not_not, zif_x1, zif_x2, zif_x3, zif_1x, zif_2x, zif_3x, zite_an, and_assoc, ite_self, not_false_eq_true, not_true_eq_false, Nat.reduceEqDiff, reduceIte, true_and, and_true, false_and, and_false, ite_true, ite_false]; done)
    | (simp only [zk_lt, zk_le, zlt_m1, zlt_0, zlt_1, zlt_2, zlt_3, zlt_4, zlt_5, zlt_6, zlt_7, zlt_8, zlt_9, zlt_10, zlt_15, zlt_16, zlt_20, zlt_24, zlt_30, zlt_36, zlt_39, zlt_40, zlt_50, zlt_72, zlt_100, zlt_199, zlt_200, zlt_215, zlt_216, zlt_255, zlt_256, zlt_1000, zlt_9999, zlt_65535, zlt_1000000000, Int.lt_iff_add_one_le, zti_ite, zb_0, Decidable.not_not, zif_x1, zif_x2, zif_x3, zif_1x, zif_2x, zif_3x, zite_an, and_assoc, ite_self, not_false_eq_true, not_true_eq_false, Nat.reduceEqDiff, reduceIte, true_and, and_true, false_and, and_false, ite_true, ite_false]; with_reducible exact h1)
    | grind [zb]
  · (try simp only [F274, F353_0_148, G274, G353_0_148, M33, zup2, zup1, zite2, zite1, upd_r, zmin_3, zt_le (zn_mono (i_Lea_11 h) (by decide)), q_1_6 h, q_0_11 h, q_34 h, q_6_0 h, q_41 h, q_42 h, q_43 h, q_44 h, q_45 h, q_46 h, q_47 h, q_48 h, q_49 h, q_50 h, ite_self, not_false_eq_true, not_true_eq_false, Nat.reduceEqDiff, reduceIte, true_and, and_true, false_and, and_false, ite_true, ite_false])
    first
    | done
    | with_reducible exact h2
    | (simp only [zk_lt, zk_le, zlt_m1, zlt_0, zlt_1, zlt_2, zlt_3, zlt_4, zlt_5, zlt_6, zlt_7, zlt_8, zlt_9, zlt_10, zlt_15, zlt_16, zlt_20, zlt_24, zlt_30, zlt_36, zlt_39, zlt_40, zlt_50, zlt_72, zlt_100, zlt_199, zlt_200, zlt_215, zlt_216, zlt_255, zlt_256, zlt_1000, zlt_9999, zlt_65535, zlt_1000000000, Int.lt_iff_add_one_le, zti_ite, zb_0, Decidable.not_not, zif_x1, zif_x2, zif_x3, zif_1x, zif_2x, zif_3x, zite_an, and_assoc, ite_self, not_false_eq_true, not_true_eq_false, Nat.reduceEqDiff, reduceIte, true_and, and_true, false_and, and_false, ite_true, ite_false]; done)
    | (simp only [zk_lt, zk_le, zlt_m1, zlt_0, zlt_1, zlt_2, zlt_3, zlt_4, zlt_5, zlt_6, zlt_7, zlt_8, zlt_9, zlt_10, zlt_15, zlt_16, zlt_20, zlt_24, zlt_30, zlt_36, zlt_39, zlt_40, zlt_50, zlt_72, zlt_100, zlt_199, zlt_200, zlt_215, zlt_216, zlt_255, zlt_256, zlt_1000, zlt_9999, zlt_65535, zlt_1000000000, Int.lt_iff_add_one_le, zti_ite, zb_0, Decidable.not_not, zif_x1, zif_x2, zif_x3, zif_1x, zif_2x, zif_3x, zite_an, and_assoc, ite_self, not_false_eq_true, not_true_eq_false, Nat.reduceEqDiff, reduceIte, true_and, and_true, false_and, and_false, ite_true, ite_false]; with_reducible exact h2)
    | grind [zb]
  · (try simp only [F274, F353_0_148, G274, G353_0_148, M33, zup2, zup1, zite2, zite1, upd_r, zmin_3, zt_le (zn_mono (i_Lea_11 h) (by decide)), q_1_6 h, q_0_11 h, q_34 h, q_6_0 h, q_41 h, q_42 h, q_43 h, q_44 h, q_45 h, q_46 h, q_47 h, q_48 h, q_49 h, q_50 h, ite_self, not_false_eq_true, not_true_eq_false, Nat.reduceEqDiff, reduceIte, true_and, and_true, false_and, and_false, ite_true, ite_false])
    first
    | done
    | with_reducible exact h3
    | (simp only [zk_lt, zk_le, zlt_m1, zlt_0, zlt_1, zlt_2, zlt_3, zlt_4, zlt_5, zlt_6, zlt_7, zlt_8, zlt_9, zlt_10, zlt_15, zlt_16, zlt_20, zlt_24, zlt_30, zlt_36, zlt_39, zlt_40, zlt_50, zlt_72, zlt_100, zlt_199, zlt_200, zlt_215, zlt_216, zlt_255, zlt_256, zlt_1000, zlt_9999, zlt_65535, zlt_1000000000, Int.lt_iff_add_one_le, zti_ite, zb_0, Decidable.not_not, zif_x1, zif_x2, zif_x3, zif_1x, zif_2x, zif_3x, zite_an, and_assoc, ite_self, not_false_eq_true, not_true_eq_false, Nat.reduceEqDiff, reduceIte, true_and, and_true, false_and, and_false, ite_true, ite_false]; done)
    | (simp only [zk_lt, zk_le, zlt_m1, zlt_0, zlt_1, zlt_2, zlt_3, zlt_4, zlt_5, zlt_6, zlt_7, zlt_8, zlt_9, zlt_10, zlt_15, zlt_16, zlt_20, zlt_24, zlt_30, zlt_36, zlt_39, zlt_40, zlt_50, zlt_72, zlt_100, zlt_199, zlt_200, zlt_215, zlt_216, zlt_255, zlt_256, zlt_1000, zlt_9999, zlt_65535, zlt_1000000000, Int.lt_iff_add_one_le, zti_ite, zb_0, Decidable.not_not, zif_x1, zif_x2, zif_x3, zif_1x, zif_2x, zif_3x, zite_an, and_assoc, ite_self, not_false_eq_true, not_true_eq_false, Nat.reduceEqDiff, reduceIte, true_and, and_true, false_and, and_false, ite_true, ite_false]; with_reducible exact h3)
    | grind [zb]
  · (try simp only [F274, F353_0_148, G274, G353_0_148, M33, zup2, zup1, zite2, zite1, upd_r, zmin_3, zt_le (zn_mono (i_Lea_11 h) (by decide)), q_1_6 h, q_0_11 h, q_34 h, q_6_0 h, q_41 h, q_42 h, q_43 h, q_44 h, q_45 h, q_46 h, q_47 h, q_48 h, q_49 h, q_50 h, ite_self, not_false_eq_true, not_true_eq_false, Nat.reduceEqDiff, reduceIte, true_and, and_true, false_and, and_false, ite_true, ite_false])
    first
    | done
    | with_reducible exact h4
    | (simp only [zk_lt, zk_le, zlt_m1, zlt_0, zlt_1, zlt_2, zlt_3, zlt_4, zlt_5, zlt_6, zlt_7, zlt_8, zlt_9, zlt_10, zlt_15, zlt_16, zlt_20, zlt_24, zlt_30, zlt_36, zlt_39, zlt_40, zlt_50, zlt_72, zlt_100, zlt_199, zlt_200, zlt_215, zlt_216, zlt_255, zlt_256, zlt_1000, zlt_9999, zlt_65535, zlt_1000000000, Int.lt_iff_add_one_le, zti_ite, zb_0, Decidable.not_not, zif_x1, zif_x2, zif_x3, zif_1x, zif_2x, zif_3x, zite_an, and_assoc, ite_self, not_false_eq_true, not_true_eq_false, Nat.reduceEqDiff, reduceIte, true_and, and_true, false_and, and_false, ite_true, ite_false]; done)
    | (simp only [zk_lt, zk_le, zlt_m1, zlt_0, zlt_1, zlt_2, zlt_3, zlt_4, zlt_5, zlt_6, zlt_7, zlt_8, zlt_9, zlt_10, zlt_15, zlt_16, zlt_20, zlt_24, zlt_30, zlt_36, zlt_39, zlt_40, zlt_50, zlt_72, zlt_100, zlt_199, zlt_200, zlt_215, zlt_216, zlt_255, zlt_256, zlt_1000, zlt_9999, zlt_65535, zlt_1000000000, Int.lt_iff_add_one_le, zti_ite, zb_0, Decidable.not_not, zif_x1, zif_x2, zif_x3, zif_1x, zif_2x, zif_3x, zite_an, and_assoc, ite_self, not_false_eq_true, not_true_eq_false, Nat.reduceEqDiff, reduceIte, true_and, and_true, false_and, and_false, ite_true, ite_false]; with_reducible exact h4)
    | grind [zb]
  · (try simp only [F274, F353_0_148, G274, G353_0_148, M33, zup2, zup1, zite2, zite1, upd_r, zmin_3, zt_le (zn_mono (i_Lea_11 h) (by decide)), q_1_6 h, q_0_11 h, q_34 h, q_6_0 h, q_41 h, q_42 h, q_43 h, q_44 h, q_45 h, q_46 h, q_47 h, q_48 h, q_49 h, q_50 h, ite_self, not_false_eq_true, not_true_eq_false, Nat.reduceEqDiff, reduceIte, true_and, and_true, false_and, and_false, ite_true, ite_false])
    first
    | done
    | with_reducible exact h5
    | (simp only [zk_lt, zk_le, zlt_m1, zlt_0, zlt_1, zlt_2, zlt_3, zlt_4, zlt_5, zlt_6, zlt_7, zlt_8, zlt_9, zlt_10, zlt_15, zlt_16, zlt_20, zlt_24, zlt_30, zlt_36, zlt_39, zlt_40, zlt_50, zlt_72, zlt_100, zlt_199, zlt_200, zlt_215, zlt_216, zlt_255, zlt_256, zlt_1000, zlt_9999, zlt_65535, zlt_1000000000, Int.lt_iff_add_one_le, zti_ite, zb_0, Decidable.not_not, zif_x1, zif_x2, zif_x3, zif_1x, zif_2x, zif_3x, zite_an, and_assoc, ite_self, not_false_eq_true, not_true_eq_false, Nat.reduceEqDiff, reduceIte, true_and, and_true, false_and, and_false, ite_true, ite_false]; done)
    | (simp only [zk_lt, zk_le, zlt_m1, zlt_0, zlt_1, zlt_2, zlt_3, zlt_4, zlt_5, zlt_6, zlt_7, zlt_8, zlt_9, zlt_10, zlt_15, zlt_16, zlt_20, zlt_24, zlt_30, zlt_36, zlt_39, zlt_40, zlt_50, zlt_72, zlt_100, zlt_199, zlt_200, zlt_215, zlt_216, zlt_255, zlt_256, zlt_1000, zlt_9999, zlt_65535, zlt_1000000000, Int.lt_iff_add_one_le, zti_ite, zb_0, Decidable.not_not, zif_x1, zif_x2, zif_x3, zif_1x, zif_2x, zif_3x, zite_an, and_assoc, ite_self, not_false_eq_true, not_true_eq_false, Nat.reduceEqDiff, reduceIte, true_and, and_true, false_and, and_false, ite_true, ite_false]; with_reducible exact h5)
    | grind [zb]
  · (try simp only [F274, F353_0_148, G274, G353_0_148, M33, zup2, zup1, zite2, zite1, upd_r, zmin_3, zt_le (zn_mono (i_Lea_11 h) (by decide)), q_1_6 h, q_0_11 h, q_34 h, q_6_0 h, q_41 h, q_42 h, q_43 h, q_44 h, q_45 h, q_46 h, q_47 h, q_48 h, q_49 h, q_50 h, ite_self, not_false_eq_true, not_true_eq_false, Nat.reduceEqDiff, reduceIte, true_and, and_true, false_and, and_false, ite_true, ite_false])
    first
    | done
    | with_reducible exact h6
    | (simp only [zk_lt, zk_le, zlt_m1, zlt_0, zlt_1, zlt_2, zlt_3, zlt_4, zlt_5, zlt_6, zlt_7, zlt_8, zlt_9, zlt_10, zlt_15, zlt_16, zlt_20, zlt_24, zlt_30, zlt_36, zlt_39, zlt_40, zlt_50, zlt_72, zlt_100, zlt_199, zlt_200, zlt_215, zlt_216, zlt_255, zlt_256, zlt_1000, zlt_9999, zlt_65535, zlt_1000000000, Int.lt_iff_add_one_le, zti_ite, zb_0, Decidable.not_not, zif_x1, zif_x2, zif_x3, zif_1x, zif_2x, zif_3x, zite_an, and_assoc, ite_self, not_false_eq_true, not_true_eq_false, Nat.reduceEqDiff, reduceIte, true_and, and_true, false_and, and_false, ite_true, ite_false]; done)
    | (simp only [zk_lt, zk_le, zlt_m1, zlt_0, zlt_1, zlt_2, zlt_3, zlt_4, zlt_5, zlt_6, zlt_7, zlt_8, zlt_9, zlt_10, zlt_15, zlt_16, zlt_20, zlt_24, zlt_30, zlt_36, zlt_39, zlt_40, zlt_50, zlt_72, zlt_100, zlt_199, zlt_200, zlt_215, zlt_216, zlt_255, zlt_256, zlt_1000, zlt_9999, zlt_65535, zlt_1000000000, Int.lt_iff_add_one_le, zti_ite, zb_0, Decidable.not_not, zif_x1, zif_x2, zif_x3, zif_1x, zif_2x, zif_3x, zite_an, and_assoc, ite_self, not_false_eq_true, not_true_eq_false, Nat.reduceEqDiff, reduceIte, true_and, and_true, false_and, and_false, ite_true, ite_false]; with_reducible exact h6)
    | grind [zb]
  · (try simp only [F274, F353_0_148, G274, G353_0_148, M33, zup2, zup1, zite2, zite1, upd_r, zmin_3, zt_le (zn_mono (i_Lea_11 h) (by decide)), q_1_6 h, q_0_11 h, q_34 h, q_6_0 h, q_41 h, q_42 h, q_43 h, q_44 h, q_45 h, q_46 h, q_47 h, q_48 h, q_49 h, q_50 h, ite_self, not_false_eq_true, not_true_eq_false, Nat.reduceEqDiff, reduceIte, true_and, and_true, false_and, and_false, ite_true, ite_false])
    first
    | done
    | with_reducible exact h7
    | (simp only [zk_lt, zk_le, zlt_m1, zlt_0, zlt_1, zlt_2, zlt_3, zlt_4, zlt_5, zlt_6, zlt_7, zlt_8, zlt_9, zlt_10, zlt_15, zlt_16, zlt_20, zlt_24, zlt_30, zlt_36, zlt_39, zlt_40, zlt_50, zlt_72, zlt_100, zlt_199, zlt_200, zlt_215, zlt_216, zlt_255, zlt_256, zlt_1000, zlt_9999, zlt_65535, zlt_1000000000, Int.lt_iff_add_one_le, zti_ite, zb_0, Decidable.not_not, zif_x1, zif_x2, zif_x3, zif_1x, zif_2x, zif_3x, zite_an, and_assoc, ite_self, not_false_eq_true, not_true_eq_false, Nat.reduceEqDiff, reduceIte, true_and, and_true, false_and, and_false, ite_true, ite_false]; done)
    | (simp only [zk_lt, zk_le, zlt_m1, zlt_0, zlt_1, zlt_2, zlt_3, zlt_4, zlt_5, zlt_6, zlt_7, zlt_8, zlt_9, zlt_10, zlt_15, zlt_16, zlt_20, zlt_24, zlt_30, zlt_36, zlt_39, zlt_40, zlt_50, zlt_72, zlt_100, zlt_199, zlt_200, zlt_215, zlt_216, zlt_255, zlt_256, zlt_1000, zlt_9999, zlt_65535, zlt_1000000000, Int.lt_iff_add_one_le, zti_ite, zb_0, Decidable.not_not, zif_x1, zif_x2, zif_x3, zif_1x, zif_2x, zif_3x, zite_an, and_assoc, ite_self, not_false_eq_true, not_true_eq_false, Nat.reduceEqDiff, reduceIte, true_and, and_true, false_and, and_false, ite_true, ite_false]; with_reducible exact h7)
    | grind [zb]
  · (try simp only [F274, F353_0_148, G274, G353_0_148, M33, zup2, zup1, zite2, zite1, upd_r, zmin_3, zt_le (zn_mono (i_Lea_11 h) (by decide)), q_1_6 h, q_0_11 h, q_34 h, q_6_0 h, q_41 h, q_42 h, q_43 h, q_44 h, q_45 h, q_46 h, q_47 h, q_48 h, q_49 h, q_50 h, ite_self, not_false_eq_true, not_true_eq_false, Nat.reduceEqDiff, reduceIte, true_and, and_true, false_and, and_false, ite_true, ite_false])
    first
    | done
    | with_reducible exact h8
    | (simp only [zk_lt, zk_le, zlt_m1, zlt_0, zlt_1, zlt_2, zlt_3, zlt_4, zlt_5, zlt_6, zlt_7, zlt_8, zlt_9, zlt_10, zlt_15, zlt_16, zlt_20, zlt_24, zlt_30, zlt_36, zlt_39, zlt_40, zlt_50, zlt_72, zlt_100, zlt_199, zlt_200, zlt_215, zlt_216, zlt_255, zlt_256, zlt_1000, zlt_9999, zlt_65535, zlt_1000000000, Int.lt_iff_add_one_le, zti_ite, zb_0, Decidable.not_not, zif_x1, zif_x2, zif_x3, zif_1x, zif_2x, zif_3x, zite_an, and_assoc, ite_self, not_false_eq_true, not_true_eq_false, Nat.reduceEqDiff, reduceIte, true_and, and_true, false_and, and_false, ite_true, ite_false]; done)
    | (simp only [zk_lt, zk_le, zlt_m1, zlt_0, zlt_1, zlt_2, zlt_3, zlt_4, zlt_5, zlt_6, zlt_7, zlt_8, zlt_9, zlt_10, zlt_15, zlt_16, zlt_20, zlt_24, zlt_30, zlt_36, zlt_39, zlt_40, zlt_50, zlt_72, zlt_100, zlt_199, zlt_200, zlt_215, zlt_216, zlt_255, zlt_256, zlt_1000, zlt_9999, zlt_65535, zlt_1000000000, Int.lt_iff_add_one_le, zti_ite, zb_0, Decidable.not_not, zif_x1, zif_x2, zif_x3, zif_1x, zif_2x, zif_3x, zite_an, and_assoc, ite_self, not_false_eq_true, not_true_eq_false, Nat.reduceEqDiff, reduceIte, true_and, and_true, false_and, and_false, ite_true, ite_false]; with_reducible exact h8)
    | grind [zb]
  · (try simp only [F274, F353_0_148, G274, G353_0_148, M33, zup2, zup1, zite2, zite1, upd_r, zmin_3, zt_le (zn_mono (i_Lea_11 h) (by decide)), q_1_6 h, q_0_11 h, q_34 h, q_6_0 h, q_41 h, q_42 h, q_43 h, q_44 h, q_45 h, q_46 h, q_47 h, q_48 h, q_49 h, q_50 h, ite_self, not_false_eq_true, not_true_eq_false, Nat.reduceEqDiff, reduceIte, true_and, and_true, false_and, and_false, ite_true, ite_false])
    first
    | done
    | with_reducible exact h9
    | (simp only [zk_lt, zk_le, zlt_m1, zlt_0, zlt_1, zlt_2, zlt_3, zlt_4, zlt_5, zlt_6, zlt_7, zlt_8, zlt_9, zlt_10, zlt_15, zlt_16, zlt_20, zlt_24, zlt_30, zlt_36, zlt_39, zlt_40, zlt_50, zlt_72, zlt_100, zlt_199, zlt_200, zlt_215, zlt_216, zlt_255, zlt_256, zlt_1000, zlt_9999, zlt_65535, zlt_1000000000, Int.lt_iff_add_one_le, zti_ite, zb_0, Decidable.not_not, zif_x1, zif_x2, zif_x3, zif_1x, zif_2x, zif_3x, zite_an, and_assoc, ite_self, not_false_eq_true, not_true_eq_false, Nat.reduceEqDiff, reduceIte, true_and, and_true, false_and, and_false, ite_true, ite_false]; done)
    | (simp only [zk_lt, zk_le, zlt_m1, zlt_0, zlt_1, zlt_2, zlt_3, zlt_4, zlt_5, zlt_6, zlt_7, zlt_8, zlt_9, zlt_10, zlt_15, zlt_16, zlt_20, zlt_24, zlt_30, zlt_36, zlt_39, zlt_40, zlt_50, zlt_72, zlt_100, zlt_199, zlt_200, zlt_215, zlt_216, zlt_255, zlt_256, zlt_1000, zlt_9999, zlt_65535, zlt_1000000000, Int.lt_iff_add_one_le, zti_ite, zb_0, Decidable.not_not, zif_x1, zif_x2, zif_x3, zif_1x, zif_2x, zif_3x, zite_an, and_assoc, ite_self, not_false_eq_true, not_true_eq_false, Nat.reduceEqDiff, reduceIte, true_and, and_true, false_and, and_false, ite_true, ite_false]; with_reducible exact h9)
    | grind [zb]
  · (try simp only [F274, F353_0_148, G274, G353_0_148, M33, zup2, zup1, zite2, zite1, upd_r, zmin_3, zt_le (zn_mono (i_Lea_11 h) (by decide)), q_1_6 h, q_0_11 h, q_34 h, q_6_0 h, q_41 h, q_42 h, q_43 h, q_44 h, q_45 h, q_46 h, q_47 h, q_48 h, q_49 h, q_50 h, ite_self, not_false_eq_true, not_true_eq_false, Nat.reduceEqDiff, reduceIte, true_and, and_true, false_and, and_false, ite_true, ite_false])
    first
    | done
    | with_reducible exact h10
    | (simp only [zk_lt, zk_le, zlt_m1, zlt_0, zlt_1, zlt_2, zlt_3, zlt_4, zlt_5, zlt_6, zlt_7, zlt_8, zlt_9, zlt_10, zlt_15, zlt_16, zlt_20, zlt_24, zlt_30, zlt_36, zlt_39, zlt_40, zlt_50, zlt_72, zlt_100, zlt_199, zlt_200, zlt_215, zlt_216, zlt_255, zlt_256, zlt_1000, zlt_9999, zlt_65535, zlt_1000000000, Int.lt_iff_add_one_le, zti_ite, zb_0, Decidable.not_not, zif_x1, zif_x2, zif_x3, zif_1x, zif_2x, zif_3x, zite_an, and_assoc, ite_self, not_false_eq_true, not_true_eq_false, Nat.reduceEqDiff, reduceIte, true_and, and_true, false_and, and_false, ite_true, ite_false]; done)
    | (simp only [zk_lt, zk_le, zlt_m1, zlt_0, zlt_1, zlt_2, zlt_3, zlt_4, zlt_5, zlt_6, zlt_7, zlt_8, zlt_9, zlt_10, zlt_15, zlt_16, zlt_20, zlt_24, zlt_30, zlt_36, zlt_39, zlt_40, zlt_50, zlt_72, zlt_100, zlt_199, zlt_200, zlt_215, zlt_216, zlt_255, zlt_256, zlt_1000, zlt_9999, zlt_65535, zlt_1000000000, Int.lt_iff_add_one_le, zti_ite, zb_0, Decidable.not_not, zif_x1, zif_x2, zif_x3, zif_1x, zif_2x, zif_3x, zite_an, and_assoc, ite_self, not_false_eq_true, not_true_eq_false, Nat.reduceEqDiff, reduceIte, true_and, and_true, false_and, and_false, ite_true, ite_false]; with_reducible exact h10)
    | grind [zb]
  · (try simp only [F274, F353_0_148, G274, G353_0_148, M33, zup2, zup1, zite2, zite1, upd_r, zmin_3, zt_le (zn_mono (i_Lea_11 h) (by decide)), q_1_6 h, q_0_11 h, q_34 h, q_6_0 h, q_41 h, q_42 h, q_43 h, q_44 h, q_45 h, q_46 h, q_47 h, q_48 h, q_49 h, q_50 h, ite_self, not_false_eq_true, not_true_eq_false, Nat.reduceEqDiff, reduceIte, true_and, and_true, false_and, and_false, ite_true, ite_false])
    first
    | done
    | with_reducible exact h11
    | (simp only [zk_lt, zk_le, zlt_m1, zlt_0, zlt_1, zlt_2, zlt_3, zlt_4, zlt_5, zlt_6, zlt_7, zlt_8, zlt_9, zlt_10, zlt_15, zlt_16, zlt_20, zlt_24, zlt_30, zlt_36, zlt_39, zlt_40, zlt_50, zlt_72, zlt_100, zlt_199, zlt_200, zlt_215, zlt_216, zlt_255, zlt_256, zlt_1000, zlt_9999, zlt_65535, zlt_1000000000, Int.lt_iff_add_one_le, zti_ite, zb_0, Decidable.not_not, zif_x1, zif_x2, zif_x3, zif_1x, zif_2x, zif_3x, zite_an, and_assoc, ite_self, not_false_eq_true, not_true_eq_false, Nat.reduceEqDiff, reduceIte, true_and, and_true, false_and, and_false, ite_true, ite_false]; done)
    | (simp only [zk_lt, zk_le, zlt_m1, zlt_0, zlt_1, zlt_2, zlt_3, zlt_4, zlt_5, zlt_6, zlt_7, zlt_8, zlt_9, zlt_10, zlt_15, zlt_16, zlt_20, zlt_24, zlt_30, zlt_36, zlt_39, zlt_40, zlt_50, zlt_72, zlt_100, zlt_199, zlt_200, zlt_215, zlt_216, zlt_255, zlt_256, zlt_1000, zlt_9999, zlt_65535, zlt_1000000000, Int.lt_iff_add_one_le, zti_ite, zb_0, Decidable.not_not, zif_x1, zif_x2, zif_x3, zif_1x, zif_2x, zif_3x, zite_an, and_assoc, ite_self, not_false_eq_true, not_true_eq_false, Nat.reduceEqDiff, reduceIte, true_and, and_true, false_and, and_false, ite_true, ite_false]; with_reducible exact h11)
    | grind [zb]
  · (try simp only [F274, F353_0_148, G274, G353_0_148, M33, zup2, zup1, zite2, zite1, upd_r, zmin_3, zt_le (zn_mono (i_Lea_11 h) (by decide)), q_1_6 h, q_0_11 h, q_34 h, q_6_0 h, q_41 h, q_42 h, q_43 h, q_44 h, q_45 h, q_46 h, q_47 h, q_48 h, q_49 h, q_50 h, ite_self, not_false_eq_true, not_true_eq_false, Nat.reduceEqDiff, reduceIte, true_and, and_true, false_and, and_false, ite_true, ite_false])
    first
    | done
    | with_reducible exact h12
    | (simp only [zk_lt, zk_le, zlt_m1, zlt_0, zlt_1, zlt_2, zlt_3, zlt_4, zlt_5, zlt_6, zlt_7, zlt_8, zlt_9, zlt_10, zlt_15, zlt_16, zlt_20, zlt_24, zlt_30, zlt_36, zlt_39, zlt_40, zlt_50, zlt_72, zlt_100, zlt_199, zlt_200, zlt_215, zlt_216, zlt_255, zlt_256, zlt_1000, zlt_9999, zlt_65535, zlt_1000000000, Int.lt_iff_add_one_le, zti_ite, zb_0, Decidable.not_not, zif_x1, zif_x2, zif_x3, zif_1x, zif_2x, zif_3x, zite_an, and_assoc, ite_self, not_false_eq_true, not_true_eq_false, Nat.reduceEqDiff, reduceIte, true_and, and_true, false_and, and_false, ite_true, ite_false]; done)
    | (simp only [zk_lt, zk_le, zlt_m1, zlt_0, zlt_1, zlt_2, zlt_3, zlt_4, zlt_5, zlt_6, zlt_7, zlt_8, zlt_9, zlt_10, zlt_15, zlt_16, zlt_20, zlt_24, zlt_30, zlt_36, zlt_39, zlt_40, zlt_50, zlt_72, zlt_100, zlt_199, zlt_200, zlt_215, zlt_216, zlt_255, zlt_256, zlt_1000, zlt_9999, zlt_65535, zlt_1000000000, Int.lt_iff_add_one_le, zti_ite, zb_0, Decidable.not_not, zif_x1, zif_x2, zif_x3, zif_1x, zif_2x, zif_3x, zite_an, and_assoc, ite_self, not_false_eq_true, not_true_eq_false, Nat.reduceEqDiff, reduceIte, true_and, and_true, false_and, and_false, ite_true, ite_false]; with_reducible exact h12)
    | grind [zb]
  · (try simp only [F274, F353_0_148, G274, G353_0_148, M33, zup2, zup1, zite2, zite1, upd_r, zmin_3, zt_le (zn_mono (i_Lea_11 h) (by decide)), q_1_6 h, q_0_11 h, q_34 h, q_6_0 h, q_41 h, q_42 h, q_43 h, q_44 h, q_45 h, q_46 h, q_47 h, q_48 h, q_49 h, q_50 h, ite_self, not_false_eq_true, not_true_eq_false, Nat.reduceEqDiff, reduceIte, true_and, and_true, false_and, and_false, ite_true, ite_false])
    first
    | done
    | with_reducible exact h13
    | (simp only [zk_lt, zk_le, zlt_m1, zlt_0, zlt_1, zlt_2, zlt_3, zlt_4, zlt_5, zlt_6, zlt_7, zlt_8, zlt_9, zlt_10, zlt_15, zlt_16, zlt_20, zlt_24, zlt_30, zlt_36, zlt_39, zlt_40, zlt_50, zlt_72, zlt_100, zlt_199, zlt_200, zlt_215, zlt_216, zlt_255, zlt_256, zlt_1000, zlt_9999, zlt_65535, zlt_1000000000, Int.lt_iff_add_one_le, zti_ite, zb_0, Decidable.not_not, zif_x1, zif_x2, zif_x3, zif_1x, zif_2x, zif_3x, zite_an, and_assoc, ite_self, not_false_eq_true, not_true_eq_false, Nat.reduceEqDiff, reduceIte, true_and, and_true, false_and, and_false, ite_true, ite_false]; done)
    | (simp only [zk_lt, zk_le, zlt_m1, zlt_0, zlt_1, zlt_2, zlt_3, zlt_4, zlt_5, zlt_6, zlt_7, zlt_8, zlt_9, zlt_10, zlt_15, zlt_16, zlt_20, zlt_24, zlt_30, zlt_36, zlt_39, zlt_40, zlt_50, zlt_72, zlt_100, zlt_199, zlt_200, zlt_215, zlt_216, zlt_255, zlt_256, zlt_1000, zlt_9999, zlt_65535, zlt_1000000000, Int.lt_iff_add_one_le, zti_ite, zb_0, Decidable.not_not, zif_x1, zif_x2, zif_x3, zif_1x, zif_2x, zif_3x, zite_an, and_assoc, ite_self, not_false_eq_true, not_true_eq_false, Nat.reduceEqDiff, reduceIte, true_and, and_true, false_and, and_false, ite_true, ite_false]; with_reducible exact h13)
    | grind [zb]
  · (try simp only [F274, F353_0_148, G274, G353_0_148, M33, zup2, zup1, zite2, zite1, upd_r, zmin_3, zt_le (zn_mono (i_Lea_11 h) (by decide)), q_1_6 h, q_0_11 h, q_34 h, q_6_0 h, q_41 h, q_42 h, q_43 h, q_44 h, q_45 h, q_46 h, q_47 h, q_48 h, q_49 h, q_50 h, ite_self, not_false_eq_true, not_true_eq_false, Nat.reduceEqDiff, reduceIte, true_and, and_true, false_and, and_false, ite_true, ite_false])
    first
    | done
    | with_reducible exact h14
    | (simp only [zk_lt, zk_le, zlt_m1, zlt_0, zlt_1, zlt_2, zlt_3, zlt_4, zlt_5, zlt_6, zlt_7, zlt_8, zlt_9, zlt_10, zlt_15, zlt_16, zlt_20, zlt_24, zlt_30, zlt_36, zlt_39, zlt_40, zlt_50, zlt_72, zlt_100, zlt_199, zlt_200, zlt_215, zlt_216, zlt_255, zlt_256, zlt_1000, zlt_9999, zlt_65535, zlt_1000000000, Int.lt_iff_add_one_le, zti_ite, zb_0, Decidable.not_not, zif_x1, zif_x2, zif_x3, zif_1x, zif_2x, zif_3x, zite_an, and_assoc, ite_self, not_false_eq_true, not_true_eq_false, Nat.reduceEqDiff, reduceIte, true_and, and_true, false_and, and_false, ite_true, ite_false]; done)
    | (simp only [zk_lt, zk_le, zlt_m1, zlt_0, zlt_1, zlt_2, zlt_3, zlt_4, zlt_5, zlt_6, zlt_7, zlt_8, zlt_9, zlt_10, zlt_15, zlt_16, zlt_20, zlt_24, zlt_30, zlt_36, zlt_39, zlt_40, zlt_50, zlt_72, zlt_100, zlt_199, zlt_200, zlt_215, zlt_216, zlt_255, zlt_256, zlt_1000, zlt_9999, zlt_65535, zlt_1000000000, Int.lt_iff_add_one_le, zti_ite, zb_0, Decidable.not_not, zif_x1, zif_x2, zif_x3, zif_1x, zif_2x, zif_3x, zite_an, and_assoc, ite_self, not_false_eq_true, not_true_eq_false, Nat.reduceEqDiff, reduceIte, true_and, and_true, false_and, and_false, ite_true, ite_false]; with_reducible exact h14)
    | grind [zb]
  · (try simp only [F274, F353_0_148, G274, G353_0_148, M33, zup2, zup1, zite2, zite1, upd_r, zmin_3, zt_le (zn_mono (i_Lea_11 h) (by decide)), q_1_6 h, q_0_11 h, q_34 h, q_6_0 h, q_41 h, q_42 h, q_43 h, q_44 h, q_45 h, q_46 h, q_47 h, q_48 h, q_49 h, q_50 h, ite_self, not_false_eq_true, not_true_eq_false, Nat.reduceEqDiff, reduceIte, true_and, and_true, false_and, and_false, ite_true, ite_false])
    first
    | done
    | with_reducible exact h15
    | (simp only [zk_lt, zk_le, zlt_m1, zlt_0, zlt_1, zlt_2, zlt_3, zlt_4, zlt_5, zlt_6, zlt_7, zlt_8, zlt_9, zlt_10, zlt_15, zlt_16, zlt_20, zlt_24, zlt_30, zlt_36, zlt_39, zlt_40, zlt_50, zlt_72, zlt_100, zlt_199, zlt_200, zlt_215, zlt_216, zlt_255, zlt_256, zlt_1000, zlt_9999, zlt_65535, zlt_1000000000, Int.lt_iff_add_one_le, zti_ite, zb_0, Decidable.not_not, zif_x1, zif_x2, zif_x3, zif_1x, zif_2x, zif_3x, zite_an, and_assoc, ite_self, not_false_eq_true, not_true_eq_false, Nat.reduceEqDiff, reduceIte, true_and, and_true, false_and, and_false, ite_true, ite_false]; done)
    | (simp only [zk_lt, zk_le, zlt_m1, zlt_0, zlt_1, zlt_2, zlt_3, zlt_4, zlt_5, zlt_6, zlt_7, zlt_8, zlt_9, zlt_10, zlt_15, zlt_16, zlt_20, zlt_24, zlt_30, zlt_36, zlt_39, zlt_40, zlt_50, zlt_72, zlt_100, zlt_199, zlt_200, zlt_215, zlt_216, zlt_255, zlt_256, zlt_1000, zlt_9999, zlt_65535, zlt_1000000000, Int.lt_iff_add_one_le, zti_ite, zb_0, Decidable.not_not, zif_x1, zif_x2, zif_x3, zif_1x, zif_2x, zif_3x, zite_an, and_assoc, ite_self, not_false_eq_true, not_true_eq_false, Nat.reduceEqDiff, reduceIte, true_and, and_true, false_and, and_false, ite_true, ite_false]; with_reducible exact h15)
    | (intro j; have hj := h15 j; simp only [zk_lt, zk_le, zlt_m1, zlt_0, zlt_1, zlt_2, zlt_3, zlt_4, zlt_5, zlt_6, zlt_7, zlt_8, zlt_9, zlt_10, zlt_15, zlt_16, zlt_20, zlt_24, zlt_30, zlt_36, zlt_39, zlt_40, zlt_50, zlt_72, zlt_100, zlt_199, zlt_200, zlt_215, zlt_216, zlt_255, zlt_256, zlt_1000, zlt_9999, zlt_65535, zlt_1000000000, Int.lt_iff_add_one_le, zti_ite, zb_0, Decidable.not_not, zif_x1, zif_x2, zif_x3, zif_1x, zif_2x, zif_3x, zite_an, and_assoc, ite_self, not_false_eq_true, not_true_eq_false, Nat.reduceEqDiff, reduceIte, true_and, and_true, false_and, and_false, ite_true, ite_false] at hj ⊢; grind [zb, zo, zn]) | (intro j; have hj := h15 j; grind [zb, zo, zn]) | (intro j; have hj := h15 j; (repeat' split) <;> first | exact hj | grind [zb, zo, zn, zlt_m1]) | grind [zb]
  · (try simp only [F274, F353_0_148, G274, G353_0_148, M33, zup2, zup1, zite2, zite1, upd_r, zmin_3, zt_le (zn_mono (i_Lea_11 h) (by decide)), q_1_6 h, q_0_11 h, q_34 h, q_6_0 h, q_41 h, q_42 h, q_43 h, q_44 h, q_45 h, q_46 h, q_47 h, q_48 h, q_49 h, q_50 h, ite_self, not_false_eq_true, not_true_eq_false, Nat.reduceEqDiff, reduceIte, true_and, and_true, false_and, and_false, ite_true, ite_false])
    first
    | done
    | with_reducible exact h16
    | (simp only [zk_lt, zk_le, zlt_m1, zlt_0, zlt_1, zlt_2, zlt_3, zlt_4, zlt_5, zlt_6, zlt_7, zlt_8, zlt_9, zlt_10, zlt_15, zlt_16, zlt_20, zlt_24, zlt_30, zlt_36, zlt_39, zlt_40, zlt_50, zlt_72, zlt_100, zlt_199, zlt_200, zlt_215, zlt_216, zlt_255, zlt_256, zlt_1000, zlt_9999, zlt_65535, zlt_1000000000, Int.lt_iff_add_one_le, zti_ite, zb_0, Decidable.not_not, zif_x1, zif_x2, zif_x3, zif_1x, zif_2x, zif_3x, zite_an, and_assoc, ite_self, not_false_eq_true, not_true_eq_false, Nat.reduceEqDiff, reduceIte, true_and, and_true, false_and, and_false, ite_true, ite_false]; done)
    | (simp only [zk_lt, zk_le, zlt_m1, zlt_0, zlt_1, zlt_2, zlt_3, zlt_4, zlt_5, zlt_6, zlt_7, zlt_8, zlt_9, zlt_10, zlt_15, zlt_16, zlt_20, zlt_24, zlt_30, zlt_36, zlt_39, zlt_40, zlt_50, zlt_72, zlt_100, zlt_199, zlt_200, zlt_215, zlt_216, zlt_255, zlt_256, zlt_1000, zlt_9999, zlt_65535, zlt_1000000000, Int.lt_iff_add_one_le, zti_ite, zb_0, Decidable.not_not, zif_x1, zif_x2, zif_x3, zif_1x, zif_2x, zif_3x, zite_an, and_assoc, ite_self, not_false_eq_true, not_true_eq_false, Nat.reduceEqDiff, reduceIte, true_and, and_true, false_and, and_false, ite_true, ite_false]; with_reducible exact h16)
    | (intro j; have hj := h16 j; simp only [zk_lt, zk_le, zlt_m1, zlt_0, zlt_1, zlt_2, zlt_3, zlt_4, zlt_5, zlt_6, zlt_7, zlt_8, zlt_9, zlt_10, zlt_15, zlt_16, zlt_20, zlt_24, zlt_30, zlt_36, zlt_39, zlt_40, zlt_50, zlt_72, zlt_100, zlt_199, zlt_200, zlt_215, zlt_216, zlt_255, zlt_256, zlt_1000, zlt_9999, zlt_65535, zlt_1000000000, Int.lt_iff_add_one_le, zti_ite, zb_0, Decidable.not_not, zif_x1, zif_x2, zif_x3, zif_1x, zif_2x, zif_3x, zite_an, and_assoc, ite_self, not_false_eq_true, not_true_eq_false, Nat.reduceEqDiff, reduceIte, true_and, and_true, false_and, and_false, ite_true, ite_false] at hj ⊢; grind [zb, zo, zn]) | (intro j; have hj := h16 j; grind [zb, zo, zn]) | (intro j; have hj := h16 j; (repeat' split) <;> first | exact hj | grind [zb, zo, zn, zlt_m1]) | grind [zb]
  · (try simp only [F274, F353_0_148, G274, G353_0_148, M33, zup2, zup1, zite2, zite1, upd_r, zmin_3, zt_le (zn_mono (i_Lea_11 h) (by decide)), q_1_6 h, q_0_11 h, q_34 h, q_6_0 h, q_41 h, q_42 h, q_43 h, q_44 h, q_45 h, q_46 h, q_47 h, q_48 h, q_49 h, q_50 h, ite_self, not_false_eq_true, not_true_eq_false, Nat.reduceEqDiff, reduceIte, true_and, and_true, false_and, and_false, ite_true, ite_false])
    first
    | done
    | with_reducible exact h17
    | (simp only [zk_lt, zk_le, zlt_m1, zlt_0, zlt_1, zlt_2, zlt_3, zlt_4, zlt_5, zlt_6, zlt_7, zlt_8, zlt_9, zlt_10, zlt_15, zlt_16, zlt_20, zlt_24, zlt_30, zlt_36, zlt_39, zlt_40, zlt_50, zlt_72, zlt_100, zlt_199, zlt_200, zlt_215, zlt_216, zlt_255, zlt_256, zlt_1000, zlt_9999, zlt_65535, zlt_1000000000, Int.lt_iff_add_one_le, zti_ite, zb_0, Decidable.not_not, zif_x1, zif_x2, zif_x3, zif_1x, zif_2x, zif_3x, zite_an, and_assoc, ite_self, not_false_eq_true, not_true_eq_false, Nat.reduceEqDiff, reduceIte, true_and, and_true, false_and, and_false, ite_true, ite_false]; done)
    | (simp only [zk_lt, zk_le, zlt_m1, zlt_0, zlt_1, zlt_2, zlt_3, zlt_4, zlt_5, zlt_6, zlt_7, zlt_8, zlt_9, zlt_10, zlt_15, zlt_16, zlt_20, zlt_24, zlt_30, zlt_36, zlt_39, zlt_40, zlt_50, zlt_72, zlt_100, zlt_199, zlt_200, zlt_215, zlt_216, zlt_255, zlt_256, zlt_1000, zlt_9999, zlt_65535, zlt_1000000000, Int.lt_iff_add_one_le, zti_ite, zb_0, Decidable.not_not, zif_x1, zif_x2, zif_x3, zif_1x, zif_2x, zif_3x, zite_an, and_assoc, ite_self, not_false_eq_true, not_true_eq_false, Nat.reduceEqDiff, reduceIte, true_and, and_true, false_and, and_false, ite_true, ite_false]; with_reducible exact h17)
    | (intro j; have hj := h17 j; simp only [zk_lt, zk_le, zlt_m1, zlt_0, zlt_1, zlt_2, zlt_3, zlt_4, zlt_5, zlt_6, zlt_7, zlt_8, zlt_9, zlt_10, zlt_15, zlt_16, zlt_20, zlt_24, zlt_30, zlt_36, zlt_39, zlt_40, zlt_50, zlt_72, zlt_100, zlt_199, zlt_200, zlt_215, zlt_216, zlt_255, zlt_256, zlt_1000, zlt_9999, zlt_65535, zlt_1000000000, Int.lt_iff_add_one_le, zti_ite, zb_0, Decidable.not_not, zif_x1, zif_x2, zif_x3, zif_1x, zif_2x, zif_3x, zite_an, and_assoc, ite_self, not_false_eq_true, not_true_eq_false, Nat.reduceEqDiff, reduceIte, true_and, and_true, false_and, and_false, ite_true, ite_false] at hj ⊢; grind [zb, zo, zn]) | (intro j; have hj := h17 j; grind [zb, zo, zn]) | (intro j; have hj := h17 j; (repeat' split) <;> first | exact hj | grind [zb, zo, zn, zlt_m1]) | grind [zb]
  · (try simp only [F274, F353_0_148, G274, G353_0_148, M33, zup2, zup1, zite2, zite1, upd_r, zmin_3, zt_le (zn_mono (i_Lea_11 h) (by decide)), q_1_6 h, q_0_11 h, q_34 h, q_6_0 h, q_41 h, q_42 h, q_43 h, q_44 h, q_45 h, q_46 h, q_47 h, q_48 h, q_49 h, q_50 h, ite_self, not_false_eq_true, not_true_eq_false, Nat.reduceEqDiff, reduceIte, true_and, and_true, false_and, and_false, ite_true, ite_false])
    first
    | done
    | with_reducible exact h18
    | (simp only [zk_lt, zk_le, zlt_m1, zlt_0, zlt_1, zlt_2, zlt_3, zlt_4, zlt_5, zlt_6, zlt_7, zlt_8, zlt_9, zlt_10, zlt_15, zlt_16, zlt_20, zlt_24, zlt_30, zlt_36, zlt_39, zlt_40, zlt_50, zlt_72, zlt_100, zlt_199, zlt_200, zlt_215, zlt_216, zlt_255, zlt_256, zlt_1000, zlt_9999, zlt_65535, zlt_1000000000, Int.lt_iff_add_one_le, zti_ite, zb_0, Decidable.not_not, zif_x1, zif_x2, zif_x3, zif_1x, zif_2x, zif_3x, zite_an, and_assoc, ite_self, not_false_eq_true, not_true_eq_false, Nat.reduceEqDiff, reduceIte, true_and, and_true, false_and, and_false, ite_true, ite_false]; done)
    | (simp only [zk_lt, zk_le, zlt_m1, zlt_0, zlt_1, zlt_2, zlt_3, zlt_4, zlt_5, zlt_6, zlt_7, zlt_8, zlt_9, zlt_10, zlt_15, zlt_16, zlt_20, zlt_24, zlt_30, zlt_36, zlt_39, zlt_40, zlt_50, zlt_72, zlt_100, zlt_199, zlt_200, zlt_215, zlt_216, zlt_255, zlt_256, zlt_1000, zlt_9999, zlt_65535, zlt_1000000000, Int.lt_iff_add_one_le, zti_ite, zb_0, Decidable.not_not, zif_x1, zif_x2, zif_x3, zif_1x, zif_2x, zif_3x, zite_an, and_assoc, ite_self, not_false_eq_true, not_true_eq_false, Nat.reduceEqDiff, reduceIte, true_and, and_true, false_and, and_false, ite_true, ite_false]; with_reducible exact h18)
    | (intro j; have hj := h18 j; simp only [zk_lt, zk_le, zlt_m1, zlt_0, zlt_1, zlt_2, zlt_3, zlt_4, zlt_5, zlt_6, zlt_7, zlt_8, zlt_9, zlt_10, zlt_15, zlt_16, zlt_20, zlt_24, zlt_30, zlt_36, zlt_39, zlt_40, zlt_50, zlt_72, zlt_100, zlt_199, zlt_200, zlt_215, zlt_216, zlt_255, zlt_256, zlt_1000, zlt_9999, zlt_65535, zlt_1000000000, Int.lt_iff_add_one_le, zti_ite, zb_0, Decidable.not_not, zif_x1, zif_x2, zif_x3, zif_1x, zif_2x, zif_3x, zite_an, and_assoc, ite_self, not_false_eq_true, not_true_eq_false, Nat.reduceEqDiff, reduceIte, true_and, and_true, false_and, and_false, ite_true, ite_false] at hj ⊢; grind [zb, zo, zn]) | (intro j; have hj := h18 j; grind [zb, zo, zn]) | (intro j; have hj := h18 j; (repeat' split) <;> first | exact hj | grind [zb, zo, zn, zlt_m1]) | grind [zb]

/-! call 40: the class and the reference answer alike (wip/whole/man/40.txt) -/
set_option maxHeartbeats 200000 in
theorem zyr40 {n : Nat} {S T : zS} (q1 : Int32) (hn : n < 512) (h : zR n S T) : ((G299 q1 T) 13 0) = (F360_0_148 q1 S) ∧ ((F360_0_148 q1 S) = 0 → ((G360_0_148 q1 S) 148 0) = (F299 q1 T)) := by
  simp only [F299, F360_0_148, G299, G360_0_148, zup2, zup1, zite2, zite1, upd_r, zt_le (zn_mono (i_Wra_4 h) (by decide)), q_1_6 h, q_0_11 h, q_10_0 h, q_63 h, q_64 h, q_65 h, ite_self, not_false_eq_true, not_true_eq_false, Nat.reduceEqDiff, reduceIte, true_and, and_true, false_and, and_false, ite_true, ite_false]
  first
  | done
  | (simp only [zk_lt, zk_le, zlt_m1, zlt_0, zlt_1, zlt_2, zlt_3, zlt_4, zlt_5, zlt_6, zlt_7, zlt_8, zlt_9, zlt_10, zlt_15, zlt_16, zlt_20, zlt_24, zlt_30, zlt_36, zlt_39, zlt_40, zlt_50, zlt_72, zlt_100, zlt_199, zlt_200, zlt_215, zlt_216, zlt_255, zlt_256, zlt_1000, zlt_9999, zlt_65535, zlt_1000000000, Int.lt_iff_add_one_le, zti_ite, zb_0, Decidable.not_not, zif_x1, zif_x2, zif_x3, zif_1x, zif_2x, zif_3x, zite_an, and_assoc, ite_self, not_false_eq_true, not_true_eq_false, Nat.reduceEqDiff, reduceIte, true_and, and_true, false_and, and_false, ite_true, ite_false]; done)
  | (simp only [zk_lt, zk_le, zlt_m1, zlt_0, zlt_1, zlt_2, zlt_3, zlt_4, zlt_5, zlt_6, zlt_7, zlt_8, zlt_9, zlt_10, zlt_15, zlt_16, zlt_20, zlt_24, zlt_30, zlt_36, zlt_39, zlt_40, zlt_50, zlt_72, zlt_100, zlt_199, zlt_200, zlt_215, zlt_216, zlt_255, zlt_256, zlt_1000, zlt_9999, zlt_65535, zlt_1000000000, Int.lt_iff_add_one_le, zti_ite, zb_0, Decidable.not_not, zif_x1, zif_x2, zif_x3, zif_1x, zif_2x, zif_3x, zite_an, and_assoc, ite_self, not_false_eq_true, not_true_eq_false, Nat.reduceEqDiff, reduceIte, true_and, and_true, false_and, and_false, ite_true, ite_false]; grind [zb])
  | grind [zb]
set_option maxHeartbeats 200000 in
theorem zyt40_Wra {n : Nat} {S T : zS} (q1 : Int32) (hn : n < 512) (h : zR n S T) : zWra (G360_0_148 q1 S) (M40 q1 T) := by
  have hr := zR_Wra h
  unfold zWra at hr ⊢
  obtain ⟨h0, h1, h2, h3, h4, h5⟩ := hr
  have hq : ∀ j : Nat, (T 13 68).toNatClampNeg ≤ j → ¬ q1 < 0 → ¬ T 13 68 ≤ q1 → ¬ j = q1.toNatClampNeg := by
    intro j hj h1 h2 e
    rw [zk_lt, zlt_0] at h1
    rw [zk_le] at h2
    have e1 := zk_nat (x := q1) (by omega)
    have e2 := zk_nat (x := T 13 68) h4.1
    omega
  refine ⟨?_, ?_, ?_, ?_, ?_, ?_⟩
  · (try simp only [F299, F360_0_148, G299, G360_0_148, M40, zup2, zup1, zite2, zite1, upd_r, zt_le (zn_mono (i_Wra_4 h) (by decide)), q_1_6 h, q_0_11 h, q_10_0 h, q_63 h, q_64 h, q_65 h, ite_self, not_false_eq_true, not_true_eq_false, Nat.reduceEqDiff, reduceIte, true_and, and_true, false_and, and_false, ite_true, ite_false])
    first
    | done
    | with_reducible exact h0
    | (simp only [zk_lt, zk_le, zlt_m1, zlt_0, zlt_1, zlt_2, zlt_3, zlt_4, zlt_5, zlt_6, zlt_7, zlt_8, zlt_9, zlt_10, zlt_15, zlt_16, zlt_20, zlt_24, zlt_30, zlt_36, zlt_39, zlt_40, zlt_50, zlt_72, zlt_100, zlt_199, zlt_200, zlt_215, zlt_216, zlt_255, zlt_256, zlt_1000, zlt_9999, zlt_65535, zlt_1000000000, Int.lt_iff_add_one_le, zti_ite, zb_0, Decidable.not_not, zif_x1, zif_x2, zif_x3, zif_1x, zif_2x, zif_3x, zite_an, and_assoc, ite_self, not_false_eq_true, not_true_eq_false, Nat.reduceEqDiff, reduceIte, true_and, and_true, false_and, and_false, ite_true, ite_false]; done)
    | (simp only [zk_lt, zk_le, zlt_m1, zlt_0, zlt_1, zlt_2, zlt_3, zlt_4, zlt_5, zlt_6, zlt_7, zlt_8, zlt_9, zlt_10, zlt_15, zlt_16, zlt_20, zlt_24, zlt_30, zlt_36, zlt_39, zlt_40, zlt_50, zlt_72, zlt_100, zlt_199, zlt_200, zlt_215, zlt_216, zlt_255, zlt_256, zlt_1000, zlt_9999, zlt_65535, zlt_1000000000, Int.lt_iff_add_one_le, zti_ite, zb_0, Decidable.not_not, zif_x1, zif_x2, zif_x3, zif_1x, zif_2x, zif_3x, zite_an, and_assoc, ite_self, not_false_eq_true, not_true_eq_false, Nat.reduceEqDiff, reduceIte, true_and, and_true, false_and, and_false, ite_true, ite_false]; with_reducible exact h0)
    | grind [zb]
  · (try simp only [F299, F360_0_148, G299, G360_0_148, M40, zup2, zup1, zite2, zite1, upd_r, zt_le (zn_mono (i_Wra_4 h) (by decide)), q_1_6 h, q_0_11 h, q_10_0 h, q_63 h, q_64 h, q_65 h, ite_self, not_false_eq_true, not_true_eq_false, Nat.reduceEqDiff, reduceIte, true_and, and_true, false_and, and_false, ite_true, ite_false])
    first
    | done
    | with_reducible exact h1
    | (simp only [zk_lt, zk_le, zlt_m1, zlt_0, zlt_1, zlt_2, zlt_3, zlt_4, zlt_5, zlt_6, zlt_7, zlt_8, zlt_9, zlt_10, zlt_15, zlt_16, zlt_20, zlt_24, zlt_30, zlt_36, zlt_39, zlt_40, zlt_50, zlt_72, zlt_100, zlt_199, zlt_200, zlt_215, zlt_216, zlt_255, zlt_256, zlt_1000, zlt_9999, zlt_65535, zlt_1000000000, Int.lt_iff_add_one_le, zti_ite, zb_0, Decidable.not_not, zif_x1, zif_x2, zif_x3, zif_1x, zif_2x, zif_3x, zite_an, and_assoc, ite_self, not_false_eq_true, not_true_eq_false, Nat.reduceEqDiff, reduceIte, true_and, and_true, false_and, and_false, ite_true, ite_false]; done)
    | (simp only [zk_lt, zk_le, zlt_m1, zlt_0, zlt_1, zlt_2, zlt_3, zlt_4, zlt_5, zlt_6, zlt_7, zlt_8, zlt_9, zlt_10, zlt_15, zlt_16, zlt_20, zlt_24, zlt_30, zlt_36, zlt_39, zlt_40, zlt_50, zlt_72, zlt_100, zlt_199, zlt_200, zlt_215, zlt_216, zlt_255, zlt_256, zlt_1000, zlt_9999, zlt_65535, zlt_1000000000, Int.lt_iff_add_one_le, zti_ite, zb_0, Decidable.not_not, zif_x1, zif_x2, zif_x3, zif_1x, zif_2x, zif_3x, zite_an, and_assoc, ite_self, not_false_eq_true, not_true_eq_false, Nat.reduceEqDiff, reduceIte, true_and, and_true, false_and, and_false, ite_true, ite_false]; with_reducible exact h1)
    | grind [zb]
  · (try simp only [F299, F360_0_148, G299, G360_0_148, M40, zup2, zup1, zite2, zite1, upd_r, zt_le (zn_mono (i_Wra_4 h) (by decide)), q_1_6 h, q_0_11 h, q_10_0 h, q_63 h, q_64 h, q_65 h, ite_self, not_false_eq_true, not_true_eq_false, Nat.reduceEqDiff, reduceIte, true_and, and_true, false_and, and_false, ite_true, ite_false])
    first
    | done
    | with_reducible exact h2
    | (simp only [zk_lt, zk_le, zlt_m1, zlt_0, zlt_1, zlt_2, zlt_3, zlt_4, zlt_5, zlt_6, zlt_7, zlt_8, zlt_9, zlt_10, zlt_15, zlt_16, zlt_20, zlt_24, zlt_30, zlt_36, zlt_39, zlt_40, zlt_50, zlt_72, zlt_100, zlt_199, zlt_200, zlt_215, zlt_216, zlt_255, zlt_256, zlt_1000, zlt_9999, zlt_65535, zlt_1000000000, Int.lt_iff_add_one_le, zti_ite, zb_0, Decidable.not_not, zif_x1, zif_x2, zif_x3, zif_1x, zif_2x, zif_3x, zite_an, and_assoc, ite_self, not_false_eq_true, not_true_eq_false, Nat.reduceEqDiff, reduceIte, true_and, and_true, false_and, and_false, ite_true, ite_false]; done)
    | (simp only [zk_lt, zk_le, zlt_m1, zlt_0, zlt_1, zlt_2, zlt_3, zlt_4, zlt_5, zlt_6, zlt_7, zlt_8, zlt_9, zlt_10, zlt_15, zlt_16, zlt_20, zlt_24, zlt_30, zlt_36, zlt_39, zlt_40, zlt_50, zlt_72, zlt_100, zlt_199, zlt_200, zlt_215, zlt_216, zlt_255, zlt_256, zlt_1000, zlt_9999, zlt_65535, zlt_1000000000, Int.lt_iff_add_one_le, zti_ite, zb_0, Decidable.not_not, zif_x1, zif_x2, zif_x3, zif_1x, zif_2x, zif_3x, zite_an, and_assoc, ite_self, not_false_eq_true, not_true_eq_false, Nat.reduceEqDiff, reduceIte, true_and, and_true, false_and, and_false, ite_true, ite_false]; with_reducible exact h2)
    | grind [zb]
  · (try simp only [F299, F360_0_148, G299, G360_0_148, M40, zup2, zup1, zite2, zite1, upd_r, zt_le (zn_mono (i_Wra_4 h) (by decide)), q_1_6 h, q_0_11 h, q_10_0 h, q_63 h, q_64 h, q_65 h, ite_self, not_false_eq_true, not_true_eq_false, Nat.reduceEqDiff, reduceIte, true_and, and_true, false_and, and_false, ite_true, ite_false])
    first
    | done
    | with_reducible exact h3
    | (simp only [zk_lt, zk_le, zlt_m1, zlt_0, zlt_1, zlt_2, zlt_3, zlt_4, zlt_5, zlt_6, zlt_7, zlt_8, zlt_9, zlt_10, zlt_15, zlt_16, zlt_20, zlt_24, zlt_30, zlt_36, zlt_39, zlt_40, zlt_50, zlt_72, zlt_100, zlt_199, zlt_200, zlt_215, zlt_216, zlt_255, zlt_256, zlt_1000, zlt_9999, zlt_65535, zlt_1000000000, Int.lt_iff_add_one_le, zti_ite, zb_0, Decidable.not_not, zif_x1, zif_x2, zif_x3, zif_1x, zif_2x, zif_3x, zite_an, and_assoc, ite_self, not_false_eq_true, not_true_eq_false, Nat.reduceEqDiff, reduceIte, true_and, and_true, false_and, and_false, ite_true, ite_false]; done)
    | (simp only [zk_lt, zk_le, zlt_m1, zlt_0, zlt_1, zlt_2, zlt_3, zlt_4, zlt_5, zlt_6, zlt_7, zlt_8, zlt_9, zlt_10, zlt_15, zlt_16, zlt_20, zlt_24, zlt_30, zlt_36, zlt_39, zlt_40, zlt_50, zlt_72, zlt_100, zlt_199, zlt_200, zlt_215, zlt_216, zlt_255, zlt_256, zlt_1000, zlt_9999, zlt_65535, zlt_1000000000, Int.lt_iff_add_one_le, zti_ite, zb_0, Decidable.not_not, zif_x1, zif_x2, zif_x3, zif_1x, zif_2x, zif_3x, zite_an, and_assoc, ite_self, not_false_eq_true, not_true_eq_false, Nat.reduceEqDiff, reduceIte, true_and, and_true, false_and, and_false, ite_true, ite_false]; with_reducible exact h3)
    | grind [zb]
  · (try simp only [F299, F360_0_148, G299, G360_0_148, M40, zup2, zup1, zite2, zite1, upd_r, zt_le (zn_mono (i_Wra_4 h) (by decide)), q_1_6 h, q_0_11 h, q_10_0 h, q_63 h, q_64 h, q_65 h, ite_self, not_false_eq_true, not_true_eq_false, Nat.reduceEqDiff, reduceIte, true_and, and_true, false_and, and_false, ite_true, ite_false])
    first
    | done
    | with_reducible exact h4
    | (simp only [zk_lt, zk_le, zlt_m1, zlt_0, zlt_1, zlt_2, zlt_3, zlt_4, zlt_5, zlt_6, zlt_7, zlt_8, zlt_9, zlt_10, zlt_15, zlt_16, zlt_20, zlt_24, zlt_30, zlt_36, zlt_39, zlt_40, zlt_50, zlt_72, zlt_100, zlt_199, zlt_200, zlt_215, zlt_216, zlt_255, zlt_256, zlt_1000, zlt_9999, zlt_65535, zlt_1000000000, Int.lt_iff_add_one_le, zti_ite, zb_0, Decidable.not_not, zif_x1, zif_x2, zif_x3, zif_1x, zif_2x, zif_3x, zite_an, and_assoc, ite_self, not_false_eq_true, not_true_eq_false, Nat.reduceEqDiff, reduceIte, true_and, and_true, false_and, and_false, ite_true, ite_false]; done)
    | (simp only [zk_lt, zk_le, zlt_m1, zlt_0, zlt_1, zlt_2, zlt_3, zlt_4, zlt_5, zlt_6, zlt_7, zlt_8, zlt_9, zlt_10, zlt_15, zlt_16, zlt_20, zlt_24, zlt_30, zlt_36, zlt_39, zlt_40, zlt_50, zlt_72, zlt_100, zlt_199, zlt_200, zlt_215, zlt_216, zlt_255, zlt_256, zlt_1000, zlt_9999, zlt_65535, zlt_1000000000, Int.lt_iff_add_one_le, zti_ite, zb_0, Decidable.not_not, zif_x1, zif_x2, zif_x3, zif_1x, zif_2x, zif_3x, zite_an, and_assoc, ite_self, not_false_eq_true, not_true_eq_false, Nat.reduceEqDiff, reduceIte, true_and, and_true, false_and, and_false, ite_true, ite_false]; with_reducible exact h4)
    | grind [zb]
  · simp only [F299, F360_0_148, G299, G360_0_148, M40, zup2, zup1, zite2, zite1, upd_r, zt_le (zn_mono (i_Wra_4 h) (by decide)), q_1_6 h, q_0_11 h, q_10_0 h, q_63 h, q_64 h, q_65 h, ite_self, not_false_eq_true, not_true_eq_false, Nat.reduceEqDiff, reduceIte, true_and, and_true, false_and, and_false, ite_true, ite_false]
    intro j hj; have hk := h5 j hj; have hq := hq j hj; grind [zb]
