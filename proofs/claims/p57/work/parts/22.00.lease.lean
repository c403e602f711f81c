/-! leases: one try to remove a credential, the walks over all leases -/
theorem jk_0 : (0 : Int32).toInt = 0 := rfl
theorem jk_2 : (2 : Int32).toInt = 2 := rfl
theorem jk_3 : (3 : Int32).toInt = 3 := rfl
theorem jk_m1 : (-1 : Int32).toInt = -1 := rfl
theorem jN_le (sy st : Nat → Int32) (s m : Nat) : jN sy st s m ≤ m := by
  induction m with
  | zero => exact Nat.le_refl _
  | succ m ih => unfold jN; split <;> omega
theorem jN_cg {sy st sy' st' : Nat → Int32} {s : Nat} : ∀ {m : Nat}, (∀ i, i < m → sy' i = sy i ∧ (st' i = 2 ↔ st i = 2)) → jN sy' st' s m = jN sy st s m
  | 0, _ => rfl
  | m + 1, h => by
    unfold jN
    rw [jN_cg (m := m) (fun i hi => h i (Nat.lt_succ_of_lt hi)), (h m (Nat.lt_succ_self m)).1]
    simp only [(h m (Nat.lt_succ_self m)).2]
theorem jN_end {sy st st' : Nat → Int32} {s j : Nat} : ∀ {m : Nat}, j < m → ¬ st j = 2 → st' j = 2 → (∀ i, i ≠ j → st' i = st i) → jN sy st' s m + (if sy j = Int32.ofNat s then 1 else 0) = jN sy st s m
  | 0, h, _, _, _ => absurd h (Nat.not_lt_zero _)
  | m + 1, h, h1, h2, h3 => by
    unfold jN
    by_cases hm : j = m
    · subst hm
      rw [jN_cg (sy := sy) (st := st) (m := j) (fun i hi => ⟨rfl, by rw [h3 i (by omega)]⟩)]
      by_cases hs : sy j = Int32.ofNat s
      · rw [if_neg (fun e => e.2 h2), if_pos hs, if_pos ⟨hs, h1⟩]
      · rw [if_neg (fun e => e.2 h2), if_neg hs, if_neg (fun e => hs e.1)]
    · have ih := jN_end (sy := sy) (s := s) (m := m) (by omega) h1 h2 h3
      rw [h3 m (fun e => hm e.symm)]
      omega
/-- a try: what it does to the states, what it keeps -/
theorem jtry_k (a : Int32) (S : zS) : zkp [46, 47, 49] [] S (G60 a S) := p_G60 a S
theorem jtry_ne {j : Nat} (hj : j < 40) (S : zS) (i : Nat) (hi : i ≠ j) : G60 (Int32.ofNat j) S 46 i = S 46 i := by
  have e := zk_ix j (by omega)
  unfold G60
  rw [e]
  split <;> simp only [zup2, Nat.reduceEqDiff, reduceIte, if_neg hi]
theorem jtry_at {j : Nat} (hj : j < 40) (S : zS) : ¬ G60 (Int32.ofNat j) S 46 j = 0 ∧ zn 3 (G60 (Int32.ofNat j) S 46 j) := by
  have e := zk_ix j (by omega)
  unfold G60
  rw [e]
  split
  · simp only [zup2, Nat.reduceEqDiff, reduceIte]
    split <;> exact ⟨by decide, by unfold zn; decide⟩
  · simp only [zup2, Nat.reduceEqDiff, reduceIte]
    exact ⟨by decide, by unfold zn; decide⟩
theorem jtry_cnt {n j : Nat} {S : zS} (hn : n < 1000) (hj : j < (S 6 0).toNatClampNeg) (hm : zn 40 (S 6 0)) (hsy : zA 40 3 (S 43)) (hst : ¬ S 46 j = 2) (h : jCnt n S) : jCnt n (G60 (Int32.ofNat j) S) := by
  have hc := zn_cl hm
  have e := zk_ix j (by omega)
  have hs3 := zx_iff.mp (hsy j (by omega))
  have en := zk_nat hs3.1
  have eo := zk_of hs3.1
  have h46 := fun i => jtry_ne (j := j) (by omega) S i
  have hk := jtry_k (Int32.ofNat j) S
  have k6 : G60 (Int32.ofNat j) S 6 0 = S 6 0 := congrFun (hk.1 6 rfl) 0
  have k43 : G60 (Int32.ofNat j) S 43 = S 43 := hk.1 43 rfl
  have k50 : G60 (Int32.ofNat j) S 50 = S 50 := hk.1 50 rfl
  unfold jCnt at h ⊢
  intro s hs
  obtain ⟨h1, h2⟩ := h s hs
  rw [k6, k43, k50]
  refine ⟨h1, ?_⟩
  by_cases hw : S 48 (S 43 j).toNatClampNeg = 1
  · have g49 : G60 (Int32.ofNat j) S 49 s = S 49 s := by unfold G60; rw [e, if_pos hw]; simp only [zup2, Nat.reduceEqDiff, reduceIte]
    have g46 : ¬ G60 (Int32.ofNat j) S 46 j = 2 := by
      unfold G60; rw [e, if_pos hw]; simp only [zup2, Nat.reduceEqDiff, reduceIte]; split <;> decide
    have hh : ∀ i, i < (S 6 0).toNatClampNeg → S 43 i = S 43 i ∧ (G60 (Int32.ofNat j) S 46 i = 2 ↔ S 46 i = 2) := fun i hi => ⟨rfl, by
      by_cases hij : i = j
      · subst hij; exact ⟨fun e9 => absurd e9 g46, fun e9 => absurd e9 hst⟩
      · rw [h46 i hij]⟩
    rw [g49, h2, jN_cg hh]
  · have g46 : G60 (Int32.ofNat j) S 46 j = 2 := by unfold G60; rw [e, if_neg hw]; simp only [zup2, Nat.reduceEqDiff, reduceIte]
    have hE := jN_end (sy := S 43) (s := s) hj hst g46 h46
    have hle := jN_le (S 43) (S 46) s (S 6 0).toNatClampNeg
    by_cases hsj : S 43 j = Int32.ofNat s
    · have ej : (S 43 j).toNatClampNeg = s := by rw [hsj]; exact zk_ix s (by omega)
      have g49 : G60 (Int32.ofNat j) S 49 s = S 49 s - 1 := by unfold G60; rw [e, if_neg hw, ej]; simp only [zup2, Nat.reduceEqDiff, reduceIte]
      rw [if_pos hsj] at hE
      unfold zn at h1
      rw [g49, zk_tsub (by rw [zk_1, h2]; omega) (by rw [zk_1, h2]; omega), zk_1, h2]
      omega
    · have ej : ¬ s = (S 43 j).toNatClampNeg := fun e9 => hsj (by rw [e9]; exact eo.symm)
      have g49 : G60 (Int32.ofNat j) S 49 s = S 49 s := by unfold G60; rw [e, if_neg hw]; simp only [zup2, Nat.reduceEqDiff, reduceIte, if_neg ej]
      rw [if_neg hsj] at hE
      rw [g49, h2]
      omega
/-- ends, as they are when the hour has just begun (d = 1) or else (d = 0) -/
def jEnx (d : Int) (S : zS) : Prop := ∀ j, j < (S 6 0).toNatClampNeg → (S 46 j = 0 → (S 0 11).toInt < (S 44 j).toInt + d ∧ (S 44 j).toInt ≤ (S 45 j).toInt) ∧ (¬ S 46 j = 0 → (S 44 j).toInt ≤ (S 0 11).toInt)
theorem jEnx_0 {S : zS} : jEnx 0 S ↔ jEnd S := by
  unfold jEnx jEnd
  simp only [Int.add_zero]
/-- leases as a whole, but for their tokens -/
def jL (n : Nat) (d : Int) (S : zS) : Prop := jLea S ∧ jEnx d S ∧ jCnt n S
/-- one lease ends, or is tried again -/
theorem jL_try {n j : Nat} {d : Int} {S : zS} (hn : n < 1000) (h : jL n d S) (hj : j < (S 6 0).toNatClampNeg) (hst : ¬ S 46 j = 2) (he : (S 44 j).toInt ≤ (S 0 11).toInt) : jL n d (G60 (Int32.ofNat j) S) := by
  obtain ⟨hl, hx, hc⟩ := h
  have hm := rLea_0 hl
  have hcl := zn_cl hm
  have h46 := fun i => jtry_ne (j := j) (by omega) S i
  have hat := jtry_at (j := j) (by omega) S
  have hk := jtry_k (Int32.ofNat j) S
  have k6 : G60 (Int32.ofNat j) S 6 0 = S 6 0 := congrFun (hk.1 6 rfl) 0
  have k0 : G60 (Int32.ofNat j) S 0 11 = S 0 11 := congrFun (hk.1 0 rfl) 11
  have k5 : G60 (Int32.ofNat j) S 5 0 = S 5 0 := congrFun (hk.1 5 rfl) 0
  have k40 : G60 (Int32.ofNat j) S 40 = S 40 := hk.1 40 rfl
  have k41 : G60 (Int32.ofNat j) S 41 = S 41 := hk.1 41 rfl
  have k43 : G60 (Int32.ofNat j) S 43 = S 43 := hk.1 43 rfl
  have k44 : G60 (Int32.ofNat j) S 44 = S 44 := hk.1 44 rfl
  have k45 : G60 (Int32.ofNat j) S 45 = S 45 := hk.1 45 rfl
  have k48 : G60 (Int32.ofNat j) S 48 = S 48 := hk.1 48 rfl
  refine ⟨?_, ?_, jtry_cnt hn hj hm (rLea_2 hl) hst hc⟩
  · unfold jLea at hl ⊢
    rw [k6, k41, k43, k48]
    refine ⟨hl.1, hl.2.1, hl.2.2.1, fun i => ?_, hl.2.2.2.2⟩
    by_cases hij : i = j
    · subst hij; exact hat.2
    · rw [h46 i hij]; exact hl.2.2.2.1 i
  · unfold jEnx at hx ⊢
    rw [k6, k0, k44, k45]
    intro i hi
    by_cases hij : i = j
    · subst hij; exact ⟨fun e => absurd e hat.1, fun _ => he⟩
    · rw [h46 i hij]; exact hx i hi
theorem jL_44 {n j : Nat} {d : Int} {S : zS} {v : Int32} (h : jL n d S) (hs : S 46 j = 0 → (S 0 11).toInt < v.toInt + d ∧ v.toInt ≤ (S 45 j).toInt) (hs2 : ¬ S 46 j = 0 → v.toInt ≤ (S 0 11).toInt) : jL n d (z_up S 44 j v) := by
  obtain ⟨hl, hx, hc⟩ := h
  have hk : zkp [44] [] S (z_up S 44 j v) := zkp_up zkp_S rfl rfl
  refine ⟨jLea_k rfl hk hl, ?_, jCnt_k rfl hk hc⟩
  unfold jEnx at hx ⊢
  intro i hi
  simp only [zup2, Nat.reduceEqDiff, reduceIte] at hi ⊢
  by_cases hij : i = j
  · subst hij; rw [if_pos rfl]; exact ⟨hs, hs2⟩
  · rw [if_neg hij]; exact hx i hi
/-- one lease ends now -/
theorem jL_end {n j : Nat} {d : Int} {S : zS} {x : Int32} (hn : n < 1000) (h : jL n d S) (hj : j < (S 6 0).toNatClampNeg) (hst : S 46 j = 0) (hx : S 0 11 = x) : jL n d (G60 (Int32.ofNat j) (z_up S 44 j x)) := by
  obtain ⟨hl, he, hc⟩ := h
  have hcl := zn_cl (rLea_0 hl)
  -- first the try, then the end: both ways the same
  have hk : zkp [44] [] S (z_up S 44 j x) := zkp_up zkp_S rfl rfl
  have a6 : z_up S 44 j x 6 = S 6 := hk.1 6 rfl
  have a46 : z_up S 44 j x 46 = S 46 := hk.1 46 rfl
  have a0 : z_up S 44 j x 0 = S 0 := hk.1 0 rfl
  have a5 : z_up S 44 j x 5 = S 5 := hk.1 5 rfl
  have a45 : z_up S 44 j x 45 = S 45 := hk.1 45 rfl
  have a40 : z_up S 44 j x 40 = S 40 := hk.1 40 rfl
  have a41 : z_up S 44 j x 41 = S 41 := hk.1 41 rfl
  have a43 : z_up S 44 j x 43 = S 43 := hk.1 43 rfl
  have a48 : z_up S 44 j x 48 = S 48 := hk.1 48 rfl
  have hk2 := jtry_k (Int32.ofNat j) (z_up S 44 j x)
  have h46 := fun i => jtry_ne (j := j) (by omega) (z_up S 44 j x) i
  have hat := jtry_at (j := j) (by omega) (z_up S 44 j x)
  have hl2 := jLea_k rfl hk hl
  have hc2 := jCnt_k rfl hk hc
  refine ⟨?_, ?_, jtry_cnt hn (by rw [a6]; exact hj) (rLea_0 hl2) (rLea_2 hl2) (by rw [a46, hst]; decide) hc2⟩
  · unfold jLea at hl2 ⊢
    rw [hk2.1 6 rfl, hk2.1 41 rfl, hk2.1 43 rfl, hk2.1 48 rfl]
    refine ⟨hl2.1, hl2.2.1, hl2.2.2.1, fun i => ?_, hl2.2.2.2.2⟩
    by_cases hij : i = j
    · subst hij; exact hat.2
    · rw [h46 i hij]; exact hl2.2.2.2.1 i
  · unfold jEnx at he ⊢
    rw [hk2.1 6 rfl, hk2.1 0 rfl, hk2.1 44 rfl, hk2.1 45 rfl, a6, a0, a45]
    intro i hi
    by_cases hij : i = j
    · subst hij; refine ⟨fun e => absurd e hat.1, fun _ => ?_⟩; rw [zup_s, ← hx]; exact Int.le_refl _
    · rw [h46 i hij, a46, zup2, if_pos rfl, if_neg hij]; exact he i hi
theorem jL_z {n j : Nat} {S : zS} {x : Int32} (hj : j < 40) (i : Nat) (h : G60 (Int32.ofNat j) (z_up S 44 j x) 46 i = 0) : S 46 i = 0 ∧ i ≠ j := by
  have hat := jtry_at (j := j) hj (z_up S 44 j x)
  by_cases hij : i = j
  · subst hij; exact absurd h hat.1
  · rw [jtry_ne hj _ i hij] at h; exact ⟨h, hij⟩
theorem jL_z2 {j : Nat} {S : zS} (hj : j < 40) (i : Nat) (h : G60 (Int32.ofNat j) S 46 i = 0) : S 46 i = 0 ∧ i ≠ j := by
  have hat := jtry_at (j := j) hj S
  by_cases hij : i = j
  · subst hij; exact absurd h hat.1
  · rw [jtry_ne hj _ i hij] at h; exact ⟨h, hij⟩
theorem jLT_mono {S S' : zS} (h6 : S' 6 0 = S 6 0) (h5 : S' 5 0 = S 5 0) (h40 : S' 40 = S 40) (h41 : S' 41 = S 41) (h46 : ∀ i, S' 46 i = 0 → S 46 i = 0) (h : jLT S) : jLT S' := by
  unfold jLT at *
  rw [h6, h5, h40, h41]
  exact fun j hj e => h j hj (h46 j e)
/-- the walk that ends leases at paths -/
theorem jw53 {n : Nat} {d : Int} {S : zS} {x : Int32} (a b : Int32) (hn : n < 1000) (h : jL n d S) (hx : S 0 11 = x) : jL n d (K53_4_S a b x 0 0 S) ∧ zn (S 6 0).toNatClampNeg (K53_4_c4 a b x 0 0 S) ∧ (∀ i, K53_4_S a b x 0 0 S 46 i = 0 → S 46 i = 0) ∧ (∀ i, i < (S 6 0).toNatClampNeg → K53_4_S a b x 0 0 S 46 i = 0 → S 42 i < a ∨ b ≤ S 42 i) ∧ ((∀ i, i < (S 6 0).toNatClampNeg → S 46 i = 0 → S 42 i < a ∨ b ≤ S 42 i) → K53_4_c4 a b x 0 0 S = 0) := by
  unfold K53_4_S K53_4_c4 K53_4
  have hcl := zn_cl (rLea_0 h.1)
  have key := zfold_inv (f := k53_4 a b x) (i := 0) (n := (S 6 0).toNatClampNeg - 0) (a := ((0 : Int32), S)) (I := fun j (c : Int32 × zS) => jL n d c.2 ∧ c.2 6 0 = S 6 0 ∧ c.2 0 11 = x ∧ c.2 42 = S 42 ∧ zn j c.1 ∧ (∀ i, c.2 46 i = 0 → S 46 i = 0) ∧ (∀ i, i < j → c.2 46 i = 0 → S 42 i < a ∨ b ≤ S 42 i) ∧ ((∀ i, i < (S 6 0).toNatClampNeg → S 46 i = 0 → S 42 i < a ∨ b ≤ S 42 i) → c.1 = 0)) ⟨h, rfl, hx, rfl, (show zn 0 (0 : Int32) by unfold zn; decide), fun _ e => e, fun i hi => absurd hi (Nat.not_lt_zero _), fun _ => rfl⟩ (fun j c hj hI => by
    obtain ⟨i1, i2, i3, i4, i5, i6, i7, i8⟩ := hI
    rw [Nat.zero_add]
    unfold k53_4
    rw [i4]
    by_cases c0 : c.2 46 j = 0
    · by_cases c1 : S 42 j < a
      · simp only [if_pos c0, if_pos c1]
        refine ⟨i1, i2, i3, i4, zn_up i5, i6, fun i hi e => ?_, i8⟩
        by_cases hij : i = j
        · subst hij; exact Or.inl c1
        · exact i7 i (by omega) e
      · by_cases c2 : b ≤ S 42 j
        · simp only [if_pos c0, if_neg c1, if_pos c2]
          refine ⟨i1, i2, i3, i4, zn_up i5, i6, fun i hi e => ?_, i8⟩
          by_cases hij : i = j
          · subst hij; exact Or.inr c2
          · exact i7 i (by omega) e
        · simp only [if_pos c0, if_neg c1, if_neg c2]
          have hk := jtry_k (Int32.ofNat j) (z_up c.2 44 j x)
          have hk1 : zkp [44] [] c.2 (z_up c.2 44 j x) := zkp_up zkp_S rfl rfl
          refine ⟨jL_end hn i1 (by rw [i2]; omega) c0 i3, ?_, ?_, ?_, zn_succ i5 (by omega), fun i e => i6 i (jL_z (n := n) (by omega) i e).1, fun i hi e => ?_, fun hh => ?_⟩
          · rw [hk.1 6 rfl, hk1.1 6 rfl]; exact i2
          · rw [hk.1 0 rfl, hk1.1 0 rfl]; exact i3
          · rw [hk.1 42 rfl, hk1.1 42 rfl]; exact i4
          · obtain ⟨e1, e2⟩ := jL_z (n := n) (by omega) i e
            exact i7 i (by omega) e1
          · exact absurd (hh j (by omega) (i6 j c0)) (fun h9 => h9.elim c1 c2)
    · simp only [if_neg c0]
      refine ⟨i1, i2, i3, i4, zn_up i5, i6, fun i hi e => ?_, i8⟩
      by_cases hij : i = j
      · subst hij; exact absurd e c0
      · exact i7 i (by omega) e)
  obtain ⟨i1, i2, i3, i4, i5, i6, i7, i8⟩ := key
  exact ⟨i1, i5, i6, fun i hi => i7 i (by omega), i8⟩
/-- the walk that ends leases of dead tokens -/
theorem jw54 {n : Nat} {d : Int} {S : zS} {x : Int32} (hn : n < 1000) (h : jL n d S) (hx : S 0 11 = x) : jL n d (K54_6_5_2_S x 0 S) ∧ (∀ i, K54_6_5_2_S x 0 S 46 i = 0 → S 46 i = 0) ∧ (∀ i, i < (S 6 0).toNatClampNeg → K54_6_5_2_S x 0 S 46 i = 0 → S 40 (S 41 i).toNatClampNeg = 0) ∧ (∀ i, K54_6_5_2_S x 0 S 46 i = 0 → K54_6_5_2_S x 0 S 44 i = S 44 i) := by
  unfold K54_6_5_2_S K54_6_5_2
  have hcl := zn_cl (rLea_0 h.1)
  have key := zfold_inv (f := k54_6_5_2 x) (i := 0) (n := (S 6 0).toNatClampNeg - 0) (a := S) (I := fun j (c : zS) => jL n d c ∧ c 6 0 = S 6 0 ∧ c 0 11 = x ∧ c 40 = S 40 ∧ c 41 = S 41 ∧ (∀ i, c 46 i = 0 → S 46 i = 0) ∧ (∀ i, i < j → c 46 i = 0 → S 40 (S 41 i).toNatClampNeg = 0) ∧ (∀ i, c 46 i = 0 → c 44 i = S 44 i)) ⟨h, rfl, hx, rfl, rfl, fun _ e => e, fun i hi => absurd hi (Nat.not_lt_zero _), fun _ _ => rfl⟩ (fun j c hj hI => by
    obtain ⟨i1, i2, i3, i4, i5, i6, i7, i8⟩ := hI
    rw [Nat.zero_add]
    unfold k54_6_5_2
    rw [i4, i5]
    by_cases c0 : c 46 j = 0
    · by_cases c1 : S 40 (S 41 j).toNatClampNeg = 0
      · simp only [if_pos c0, if_pos c1]
        refine ⟨i1, i2, i3, i4, i5, i6, fun i hi e => ?_, i8⟩
        by_cases hij : i = j
        · subst hij; exact c1
        · exact i7 i (by omega) e
      · simp only [if_pos c0, if_neg c1]
        have hk := jtry_k (Int32.ofNat j) (z_up c 44 j x)
        have hk1 : zkp [44] [] c (z_up c 44 j x) := zkp_up zkp_S rfl rfl
        refine ⟨jL_end hn i1 (by rw [i2]; omega) c0 i3, ?_, ?_, ?_, ?_, fun i e => i6 i (jL_z (n := n) (by omega) i e).1, fun i hi e => ?_, fun i e => ?_⟩
        · rw [hk.1 6 rfl, hk1.1 6 rfl]; exact i2
        · rw [hk.1 0 rfl, hk1.1 0 rfl]; exact i3
        · rw [hk.1 40 rfl, hk1.1 40 rfl]; exact i4
        · rw [hk.1 41 rfl, hk1.1 41 rfl]; exact i5
        · obtain ⟨e1, e2⟩ := jL_z (n := n) (by omega) i e
          exact i7 i (by omega) e1
        · obtain ⟨e1, e2⟩ := jL_z (n := n) (by omega) i e
          rw [hk.1 44 rfl, zup2, if_pos rfl, if_neg e2]; exact i8 i e1
    · simp only [if_neg c0]
      refine ⟨i1, i2, i3, i4, i5, i6, fun i hi e => ?_, i8⟩
      by_cases hij : i = j
      · subst hij; exact absurd e c0
      · exact i7 i (by omega) e)
  obtain ⟨i1, i2, i3, i4, i5, i6, i7, i8⟩ := key
  exact ⟨i1, i6, fun i hi => i7 i (by omega), i8⟩
/-- the walk that ends leases whose end is now -/
theorem jw55 {n : Nat} {S : zS} {x : Int32} (hn : n < 1000) (h : jL n 1 S) (hx : S 0 11 = x) : jL n 0 (K55_2_S x 0 S) ∧ (∀ i, K55_2_S x 0 S 46 i = 0 → S 46 i = 0) := by
  have hk0 := p_K55_2_S x 0 S
  have b6 : K55_2_S x 0 S 6 = S 6 := hk0.1 6 rfl
  have b0 : K55_2_S x 0 S 0 = S 0 := hk0.1 0 rfl
  unfold K55_2_S K55_2 at *
  have hcl := zn_cl (rLea_0 h.1)
  have key := zfold_inv (f := k55_2 x) (i := 0) (n := (S 6 0).toNatClampNeg - 0) (a := S) (I := fun j (c : zS) => jL n 1 c ∧ c 6 0 = S 6 0 ∧ c 0 11 = x ∧ (∀ i, c 46 i = 0 → S 46 i = 0) ∧ (∀ i, i < j → c 46 i = 0 → ¬ c 44 i = x)) ⟨h, rfl, hx, fun _ e => e, fun i hi => absurd hi (Nat.not_lt_zero _)⟩ (fun j c hj hI => by
    obtain ⟨i1, i2, i3, i6, i7⟩ := hI
    rw [Nat.zero_add]
    unfold k55_2
    by_cases c0 : c 46 j = 0
    · by_cases c1 : c 44 j = x
      · simp only [if_pos c0, if_pos c1]
        have hk := jtry_k (Int32.ofNat j) (z_up c 44 j x)
        have hk1 : zkp [44] [] c (z_up c 44 j x) := zkp_up zkp_S rfl rfl
        refine ⟨jL_end hn i1 (by rw [i2]; omega) c0 i3, ?_, ?_, fun i e => i6 i (jL_z (n := n) (by omega) i e).1, fun i hi e => ?_⟩
        · rw [hk.1 6 rfl, hk1.1 6 rfl]; exact i2
        · rw [hk.1 0 rfl, hk1.1 0 rfl]; exact i3
        · obtain ⟨e1, e2⟩ := jL_z (n := n) (by omega) i e
          rw [hk.1 44 rfl, zup2, if_pos rfl, if_neg e2]
          exact i7 i (by omega) e1
      · simp only [if_pos c0, if_neg c1]
        refine ⟨i1, i2, i3, i6, fun i hi e => ?_⟩
        by_cases hij : i = j
        · subst hij; exact c1
        · exact i7 i (by omega) e
    · simp only [if_neg c0]
      refine ⟨i1, i2, i3, i6, fun i hi e => ?_⟩
      by_cases hij : i = j
      · subst hij; exact absurd e c0
      · exact i7 i (by omega) e)
  obtain ⟨i1, i2, i3, i6, i7⟩ := key
  refine ⟨⟨i1.1, ?_, i1.2.2⟩, i6⟩
  have he := i1.2.1
  unfold jEnx at he ⊢
  intro i hi
  obtain ⟨e1, e2⟩ := he i hi
  refine ⟨fun e => ?_, e2⟩
  obtain ⟨e3, e4⟩ := e1 e
  have e5 := i7 i (by rw [i2] at hi; omega) e
  have e7 : ¬ (_ : Int) = x.toInt := fun q => e5 (zk_eq.mpr q)
  have e6 := congrArg Int32.toInt i3
  exact ⟨by omega, e4⟩
/-- the walk that tries again -/
theorem jw56 {n : Nat} {d : Int} {S : zS} {x : Int32} (hn : n < 1000) (h : jL n d S) (hx : S 0 11 = x) : jL n d (K56_2_S x 0 S) ∧ (∀ i, K56_2_S x 0 S 46 i = 0 → S 46 i = 0) := by
  unfold K56_2_S K56_2
  have hcl := zn_cl (rLea_0 h.1)
  have key := zfold_inv (f := k56_2 x) (i := 0) (n := (S 6 0).toNatClampNeg - 0) (a := S) (I := fun j (c : zS) => jL n d c ∧ c 6 0 = S 6 0 ∧ c 0 11 = x ∧ (∀ i, c 46 i = 0 → S 46 i = 0)) ⟨h, rfl, hx, fun _ e => e⟩ (fun j c hj hI => by
    obtain ⟨i1, i2, i3, i6⟩ := hI
    rw [Nat.zero_add]
    unfold k56_2
    by_cases c0 : c 46 j = 1
    · by_cases c1 : x ≤ c 44 j
      · simp only [if_pos c0, if_pos c1]; exact ⟨i1, i2, i3, i6⟩
      · simp only [if_pos c0, if_neg c1]
        have hk := jtry_k (Int32.ofNat j) c
        have hj' : j < (c 6 0).toNatClampNeg := by rw [i2]; omega
        have he := (i1.2.1 j hj').2 (by rw [c0]; decide)
        refine ⟨jL_try hn i1 hj' (by rw [c0]; decide) he, ?_, ?_, fun i e => i6 i (jL_z2 (by omega) i e).1⟩
        · rw [hk.1 6 rfl]; exact i2
        · rw [hk.1 0 rfl]; exact i3
    · simp only [if_neg c0]; exact ⟨i1, i2, i3, i6⟩)
  exact ⟨key.1, key.2.2.2⟩
/-- the walk that rolls back -/
theorem jw57 {n : Nat} {S : zS} (hn : n < 1000) (hm : zn 40 (S 6 0)) (h : jCnt n S) : jCnt n (K57_2_S 0 S) := by
  unfold K57_2_S K57_2
  have hcl := zn_cl hm
  have key := zfold_inv (f := k57_2) (i := 0) (n := 3 - 0) (a := S) (I := fun _ (c : zS) => jCnt n c ∧ c 6 0 = S 6 0) ⟨h, rfl⟩ (fun j c hj hI => by
    obtain ⟨i1, i2⟩ := hI
    rw [Nat.zero_add]
    unfold k57_2
    split
    · refine ⟨?_, by simp only [zup2, Nat.reduceEqDiff, reduceIte]; exact i2⟩
      unfold jCnt at i1 ⊢
      intro s hs
      obtain ⟨h1, h2⟩ := i1 s hs
      have hle := jN_le (c 43) (c 46) s (c 6 0).toNatClampNeg
      simp only [zup1, Nat.reduceEqDiff, reduceIte, upd_r]
      by_cases hsj : s = j
      · subst hsj
        rw [if_pos rfl, if_pos rfl]
        unfold zn at h1
        rw [i2] at hle
        rw [zk_tsub (by rw [h2, i2]; omega) (by rw [h2, i2]; omega), h2]
        exact ⟨by unfold zn; rw [jk_0]; omega, by rw [jk_0]; omega⟩
      · rw [if_neg hsj, if_neg hsj]; exact ⟨h1, h2⟩
    · exact ⟨i1, i2⟩)
  exact key.1
