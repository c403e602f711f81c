/-! rights: the class's and the reference's are alike -/
theorem zf3 {α : Type} (f : Nat → α → α) (a : α) : zfold f 0 (3 - 0) a = f 2 (f 1 (f 0 a)) := rfl
theorem zf4 {α : Type} (f : Nat → α → α) (a : α) : zfold f 0 (4 - 0) a = f 3 (f 2 (f 1 (f 0 a))) := rfl
theorem zlsb0 : ∀ i, i < 32 → (0 : Int32).toBitVec.getLsbD i = false := by decide
theorem zbe {x y : Int32} (h : ∀ i, i < 32 → x.toBitVec.getLsbD i = y.toBitVec.getLsbD i) : x = y := by
  apply Int32.toBitVec_inj.mp
  apply BitVec.eq_of_getLsbD_eq
  exact h
/-- a set of bits in another one -/
def zsu (X P : Int32) : Prop := X ||| P = P
theorem zand_sub {E X P : Int32} (h : zsu X P) (h0 : E &&& P = 0) : E &&& X = 0 := by
  unfold zsu at h
  apply zbe
  intro i hi
  have h1 : (X ||| P).toBitVec.getLsbD i = P.toBitVec.getLsbD i := by rw [h]
  have h2 : (E &&& P).toBitVec.getLsbD i = (0 : Int32).toBitVec.getLsbD i := by rw [h0]
  rw [zlsb0 i hi] at h2 ⊢
  rw [Int32.toBitVec_or, BitVec.getLsbD_or] at h1
  rw [Int32.toBitVec_and, BitVec.getLsbD_and] at h2 ⊢
  revert h1 h2
  cases X.toBitVec.getLsbD i <;> cases P.toBitVec.getLsbD i <;> cases E.toBitVec.getLsbD i <;> simp
theorem zsu_0 (P : Int32) : zsu 0 P := by unfold zsu; rw [Int32.or_comm, Int32.or_zero]
theorem zsu_l {X M : Int32} : zsu X (X ||| M) := by unfold zsu; rw [← Int32.or_assoc, Int32.or_self]
theorem zsu_r {X M : Int32} : zsu M (X ||| M) := by unfold zsu; rw [Int32.or_comm X M, ← Int32.or_assoc, Int32.or_self]
theorem zsu_or {X M P : Int32} (h : zsu X P) (h2 : zsu M P) : zsu (X ||| M) P := by unfold zsu at *; rw [Int32.or_assoc, h2, h]
theorem zsu_tr {X P Q : Int32} (h : zsu X P) (h2 : zsu P Q) : zsu X Q := by
  unfold zsu at *
  rw [← h2, ← Int32.or_assoc, h]
theorem zsu_anti {X P : Int32} (h : zsu X P) (h2 : zsu P X) : X = P := by
  unfold zsu at *
  rw [← h, Int32.or_comm, h2]
def zgT (x : Int32) (f g : Nat → Int32) (j : Nat) (X : Int32) : Int32 := if (((zshr (f j) x) &&& 1) = 1) ∨ (¬ ((g j &&& X) = 0)) then zshl 1 (Int32.ofNat j) else 0
def zgS (x : Int32) (f g : Nat → Int32) (j : Nat) (X : Int32) : Int32 := X ||| zgT x f g j X
def zgF (x : Int32) (f g : Nat → Int32) (X : Int32) : Int32 := zgS x f g 3 (zgS x f g 2 (zgS x f g 1 (zgS x f g 0 X)))
def zgW (x : Int32) (f g : Nat → Int32) (X : Int32) : Int32 := (((X ||| zgT x f g 0 X) ||| zgT x f g 1 X) ||| zgT x f g 2 X) ||| zgT x f g 3 X
def zgC (x : Int32) (f g : Nat → Int32) (P : Int32) : Prop := ∀ j, j < 4 → zsu (zgT x f g j P) P
section ZGS
variable {x : Int32} {f g : Nat → Int32} {X P R : Int32}
theorem zgT_m {j : Nat} (h : zsu X P) (hc : zsu (zgT x f g j P) P) : zsu (zgT x f g j X) P := by
  unfold zgT at hc ⊢
  by_cases h1 : (((zshr (f j) x) &&& 1) = 1) ∨ (¬ ((g j &&& X) = 0))
  · rw [if_pos h1]
    have h2 : (((zshr (f j) x) &&& 1) = 1) ∨ (¬ ((g j &&& P) = 0)) := h1.imp id (fun h3 h4 => h3 (zand_sub h h4))
    rw [if_pos h2] at hc
    exact hc
  · rw [if_neg h1]; exact zsu_0 P
theorem zgF_sub (hc : zgC x f g P) (h : zsu X P) : zsu (zgF x f g X) P := by
  have st : ∀ j, j < 4 → ∀ Y, zsu Y P → zsu (zgS x f g j Y) P := fun j hj Y hY => zsu_or hY (zgT_m hY (hc j hj))
  exact st 3 (by decide) _ (st 2 (by decide) _ (st 1 (by decide) _ (st 0 (by decide) _ h)))
theorem zgW_sub (hc : zgC x f g P) (h : zsu X P) : zsu (zgW x f g X) P :=
  zsu_or (zsu_or (zsu_or (zsu_or h (zgT_m h (hc 0 (by decide)))) (zgT_m h (hc 1 (by decide)))) (zgT_m h (hc 2 (by decide)))) (zgT_m h (hc 3 (by decide)))
theorem zgW_cl (h : zgW x f g R = R) : zgC x f g R := by
  have k0 : zsu (zgT x f g 0 R) (zgW x f g R) := zsu_tr zsu_r (zsu_tr zsu_l (zsu_tr zsu_l zsu_l))
  have k1 : zsu (zgT x f g 1 R) (zgW x f g R) := zsu_tr zsu_r (zsu_tr zsu_l zsu_l)
  have k2 : zsu (zgT x f g 2 R) (zgW x f g R) := zsu_tr zsu_r zsu_l
  have k3 : zsu (zgT x f g 3 R) (zgW x f g R) := zsu_r
  rw [h] at k0 k1 k2 k3
  intro j hj
  have h4 : j = 0 ∨ j = 1 ∨ j = 2 ∨ j = 3 := by omega
  rcases h4 with rfl | rfl | rfl | rfl
  · exact k0
  · exact k1
  · exact k2
  · exact k3
theorem zgF_cl (h : zgF x f g X = X) : zgC x f g X := by
  have u0 : zsu (zgS x f g 0 X) (zgF x f g X) := zsu_tr zsu_l (zsu_tr zsu_l zsu_l)
  rw [h] at u0
  have e0 : zgS x f g 0 X = X := zsu_anti u0 zsu_l
  have h1 : zgS x f g 3 (zgS x f g 2 (zgS x f g 1 X)) = X := by have := h; unfold zgF at this; rw [e0] at this; exact this
  have u1 : zsu (zgS x f g 1 X) (zgS x f g 3 (zgS x f g 2 (zgS x f g 1 X))) := zsu_tr zsu_l zsu_l
  rw [h1] at u1
  have e1 : zgS x f g 1 X = X := zsu_anti u1 zsu_l
  have h2 : zgS x f g 3 (zgS x f g 2 X) = X := by have := h1; rw [e1] at this; exact this
  have u2 : zsu (zgS x f g 2 X) (zgS x f g 3 (zgS x f g 2 X)) := zsu_l
  rw [h2] at u2
  have e2 : zgS x f g 2 X = X := zsu_anti u2 zsu_l
  have e3 : zgS x f g 3 X = X := by have := h2; rw [e2] at this; exact this
  intro j hj
  have h4 : j = 0 ∨ j = 1 ∨ j = 2 ∨ j = 3 := by omega
  rcases h4 with rfl | rfl | rfl | rfl
  · exact (Int32.or_comm _ _).trans e0
  · exact (Int32.or_comm _ _).trans e1
  · exact (Int32.or_comm _ _).trans e2
  · exact (Int32.or_comm _ _).trans e3
theorem zgS_zn {j : Nat} (hj : j < 4) (h : zn 15 X) : zn 15 (zgS x f g j X) := by
  unfold zgS zgT
  exact (zor_zn h j hj _).1
theorem zgF_zn (h : zn 15 X) : zn 15 (zgF x f g X) := zgS_zn (by decide) (zgS_zn (by decide) (zgS_zn (by decide) (zgS_zn (by decide) h)))
theorem zgF_l : zsu X (zgF x f g X) := zsu_tr zsu_l (zsu_tr zsu_l (zsu_tr zsu_l zsu_l))
end ZGS
/-- how many bits -/
def zbn (x : Int32) : Nat := x.toNatClampNeg % 2 + x.toNatClampNeg / 2 % 2 + x.toNatClampNeg / 4 % 2 + x.toNatClampNeg / 8 % 2
theorem zbn_lt : ∀ a, a < 16 → ∀ b, b < 16 → (Int32.ofNat a ||| Int32.ofNat b) = Int32.ofNat b → a = b ∨ zbn (Int32.ofNat a) < zbn (Int32.ofNat b) := by decide +kernel
theorem zbn_s {X Y : Int32} (hx : zn 15 X) (hy : zn 15 Y) (h : zsu X Y) : Y = X ∨ zbn X < zbn Y := by
  have h1 := zn_cl hx
  have h2 := zn_cl hy
  have e1 := zk_of hx.1
  have e2 := zk_of hy.1
  have k := zbn_lt X.toNatClampNeg (by omega) Y.toNatClampNeg (by omega)
  rw [e1, e2] at k
  rcases k h with k | k
  · exact Or.inl (e2.symm.trans ((congrArg Int32.ofNat k.symm).trans e1))
  · exact Or.inr k
theorem zbn_4 (x : Int32) : zbn x ≤ 4 := by unfold zbn; omega
theorem zgF4 {x : Int32} {f g : Nat → Int32} : zgC x f g (zgF x f g (zgF x f g (zgF x f g (zgF x f g 0)))) := by
  apply zgF_cl
  have gr : ∀ X, zn 15 X → zgF x f g X = X ∨ zbn X < zbn (zgF x f g X) := fun X hX => zbn_s hX (zgF_zn hX) zgF_l
  have z0 : zn 15 (0 : Int32) := by unfold zn; decide
  have z1 := zgF_zn (x := x) (f := f) (g := g) z0
  have z2 := zgF_zn (x := x) (f := f) (g := g) z1
  have z3 := zgF_zn (x := x) (f := f) (g := g) z2
  have z4 := zgF_zn (x := x) (f := f) (g := g) z3
  rcases gr _ z0 with h | h0
  · simp only [h]
  rcases gr _ z1 with h | h1
  · simp only [h]
  rcases gr _ z2 with h | h2
  · simp only [h]
  rcases gr _ z3 with h | h3
  · simp only [h]
  rcases gr _ z4 with h | h4
  · exact h
  have := zbn_4 (zgF x f g (zgF x f g (zgF x f g (zgF x f g (zgF x f g 0)))))
  omega
theorem zite_or {P : Prop} [Decidable P] (a b : Int32) : (if P then (a ||| b) else a) = a ||| (if P then b else 0) := by
  split
  · rfl
  · rw [Int32.or_zero]
theorem zgK (b : Int32) (S : zS) : K79_4_c2 b 0 (none : Option zV) 0 S = zgF b (S 28) (S 29) (zgF b (S 28) (S 29) (zgF b (S 28) (S 29) (zgF b (S 28) (S 29) 0))) := by
  have hs : ∀ (x3 : Int32) (j : Nat) (a : Int32), k79_9 b x3 S j a = zgS b (S 28) (S 29) j a := by
    intro x3 j a
    unfold k79_9 zgS zgT
    by_cases h1 : ((zshr (S 28 j) b) &&& 1) = 1
    · rw [if_pos h1, if_pos (Or.inl h1)]
    · rw [if_neg h1]
      by_cases h2 : ((S 29 j) &&& a) = 0
      · rw [if_pos h2, if_neg (fun h => h.elim h1 (fun h => h h2)), Int32.or_zero]
      · rw [if_neg h2, if_pos (Or.inr h2)]
  have hF : ∀ X x3 : Int32, K79_9_c2 b X x3 0 S = zgF b (S 28) (S 29) X := by
    intro X x3
    unfold K79_9_c2 K79_9
    rw [zf4, hs, hs, hs, hs]
    rfl
  unfold K79_4_c2 K79_4
  rw [zf4]
  simp only [k79_4, hF]
theorem zgW_K (b X : Int32) (u : Option zV) (T : zS) : K251_11_c2 b X X u 0 T = zgW b (T 107) (T 108) X := by
  unfold K251_11_c2 K251_11
  rw [zf4]
  rfl
theorem zgR_end (x1 : Int32) (S : zS) : ∀ n : Nat, zn 15 (zwl (fun a => c251_4 x1 S a = true) (kw251_4 x1 S) n (0, (-1), none, none)).1 ∧ (c251_4 x1 S (zwl (fun a => c251_4 x1 S a = true) (kw251_4 x1 S) n (0, (-1), none, none)) = true ∨ (n : Int) ≤ (zwl (fun a => c251_4 x1 S a = true) (kw251_4 x1 S) n (0, (-1), none, none)).1.toInt + 1) := by
  intro n
  induction n with
  | zero => exact ⟨(by unfold zwl zn; decide), Or.inr (by unfold zwl; decide)⟩
  | succ n ih =>
    unfold zwl
    generalize zwl (fun a => c251_4 x1 S a = true) (kw251_4 x1 S) n (0, (-1), none, none) = w at ih ⊢
    obtain ⟨h1, h2⟩ := ih
    by_cases hc : c251_4 x1 S w = true
    · rw [if_pos hc]; exact ⟨h1, Or.inl hc⟩
    · rw [if_neg hc]
      have h3 := h2.resolve_left hc
      obtain ⟨h4, h5⟩ := K251_11_zn x1 w.1 w.1 w.2.2.2 S h1
      refine ⟨h4, ?_⟩
      by_cases he : w.1 = K251_11_c2 x1 w.1 w.1 w.2.2.2 0 S
      · exact Or.inl (decide_eq_true he)
      · refine Or.inr ?_
        have h6 : w.1.toInt ≠ (K251_11_c2 x1 w.1 w.1 w.2.2.2 0 S).toInt := fun h9 => he (zk_eq.mpr h9)
        show ((n + 1 : Nat) : Int) ≤ (K251_11_c2 x1 w.1 w.1 w.2.2.2 0 S).toInt + 1
        omega
theorem zgR_fix (b : Int32) (T : zS) : zgW b (T 107) (T 108) (K251_4_c2 b 0 (-1) (none : Option zV) (none : Option zV) T) = K251_4_c2 b 0 (-1) (none : Option zV) (none : Option zV) T ∧ ∀ P, zgC b (T 107) (T 108) P → zsu (K251_4_c2 b 0 (-1) (none : Option zV) (none : Option zV) T) P := by
  have hfu : (17 + (b - b).toNatClampNeg) = 17 := by rw [Int32.sub_self]; rfl
  unfold K251_4_c2 K251_4
  rw [hfu]
  have hI : ((zwl (fun a => c251_4 b T a = true) (kw251_4 b T) 17 (0, (-1), none, none)).2.1 = -1 ∧ (zwl (fun a => c251_4 b T a = true) (kw251_4 b T) 17 (0, (-1), none, none)).1 = 0 ∨ (zwl (fun a => c251_4 b T a = true) (kw251_4 b T) 17 (0, (-1), none, none)).1 = zgW b (T 107) (T 108) (zwl (fun a => c251_4 b T a = true) (kw251_4 b T) 17 (0, (-1), none, none)).2.1) ∧ ∀ P, zgC b (T 107) (T 108) P → zsu (zwl (fun a => c251_4 b T a = true) (kw251_4 b T) 17 (0, (-1), none, none)).1 P := by
    refine zwl_inv (I := fun (a : Int32 × Int32 × Option zV × Option zV) => (a.2.1 = -1 ∧ a.1 = 0 ∨ a.1 = zgW b (T 107) (T 108) a.2.1) ∧ ∀ P, zgC b (T 107) (T 108) P → zsu a.1 P) ⟨Or.inl ⟨rfl, rfl⟩, fun P _ => zsu_0 P⟩ (fun a _ ha => ⟨Or.inr (zgW_K b a.1 _ T), fun P hP => ?_⟩)
    show zsu (K251_11_c2 b a.1 a.1 a.2.2.2 0 T) P
    rw [zgW_K]
    exact zgW_sub hP (ha.2 P hP)
  have hE := zgR_end b T 17
  generalize zwl (fun a => c251_4 b T a = true) (kw251_4 b T) 17 (0, (-1), none, none) = w at hI hE ⊢
  obtain ⟨h1, h2⟩ := hI
  refine ⟨?_, h2⟩
  have hc : c251_4 b T w = true := by
    rcases hE.2 with h | h
    · exact h
    · have := hE.1; unfold zn at this; omega
  have he : w.2.1 = w.1 := of_decide_eq_true hc
  rcases h1 with ⟨h3, h4⟩ | h3
  · rw [he, h4] at h3; exact absurd h3 (by decide)
  · rw [he] at h3; exact h3.symm
theorem zgroups {S T : zS} (e1 : S 28 = T 107) (e2 : S 29 = T 108) (b : Int32) : K79_4_c2 b 0 (none : Option zV) 0 S = K251_4_c2 b 0 (-1) (none : Option zV) (none : Option zV) T := by
  obtain ⟨h1, h2⟩ := zgR_fix b T
  rw [zgK, e1, e2]
  have hR := zgW_cl h1
  exact zsu_anti (zgF_sub hR (zgF_sub hR (zgF_sub hR (zgF_sub hR (zsu_0 _))))) (h2 _ zgF4)
/-- all policies that count -/
theorem zpolicies {S T : zS} (hp : zPpl S T) (h32 : S 32 = T 111) (h33 : S 33 = T 112) (a : Int32) (hb : -1 ≤ (T 111 a.toNatClampNeg).toInt ∧ (T 111 a.toNatClampNeg).toInt ≤ 7) : F252 a T = (S 33 a.toNatClampNeg) ||| (if (S 32 a.toNatClampNeg) < 0 then (0 : Int32) else (if (S 32 a.toNatClampNeg) < 8 then ((K78_18_c2 (S 32 a.toNatClampNeg) (S 26 (S 32 a.toNatClampNeg).toNatClampNeg) (K79_4_c2 (S 32 a.toNatClampNeg) 0 (none : Option zV) 0 S) 0 S) : Int32) else 0)) := by
  unfold zPpl at hp
  obtain ⟨p0, p1, p2, p3, p4, p5, p6⟩ := hp
  rw [zgroups p4 p5, h32, h33, p2]
  unfold F252
  generalize T 111 a.toNatClampNeg = b at hb ⊢
  by_cases hm : b = -1
  · subst hm
    rw [if_pos rfl, if_pos (by decide), Int32.or_zero]
  · have hz : ¬ b < 0 := by
      rw [zk_lt, zlt_0]
      have : b.toInt ≠ -1 := fun h => hm (zk_eq.mpr h)
      omega
    have h8 : b < 8 := by rw [zk_lt, zlt_8]; omega
    rw [if_neg hm, if_neg hz, if_pos h8]
    unfold K252_26_c2 K252_26 K78_18_c2 K78_18
    rw [zf4, zf4]
    simp only [k252_26, k78_18, zite_or, p3]
    simp only [Int32.or_assoc]
