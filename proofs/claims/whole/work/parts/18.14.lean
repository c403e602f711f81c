/-! the methods with loops, and what calls them (wip/whole/gen/gen18.py) -/
theorem i251_0 : zi 251 0 1 0 0 0 := by decide +kernel
theorem i251_1 : zi 251 1 2 3 2 0 := by decide +kernel
theorem i251_2 : zi 251 2 3 0 0 (-1) := by decide +kernel
theorem i251_3 : zi 251 3 4 3 3 0 := by decide +kernel
theorem i251_4 : zi 251 4 5 1 3 0 := by decide +kernel
theorem i251_5 : zi 251 5 6 1 2 0 := by decide +kernel
theorem i251_6 : zi 251 6 7 19 48 0 := by decide +kernel
theorem i251_7 : zi 251 7 8 1 2 0 := by decide +kernel
theorem i251_8 : zi 251 8 9 3 3 0 := by decide +kernel
theorem i251_9 : zi 251 9 10 0 0 0 := by decide +kernel
theorem i251_10 : zi 251 10 11 3 4 0 := by decide +kernel
theorem i251_48 : zi 251 48 49 1 2 0 := by decide +kernel
theorem i251_49 : zi 251 49 50 25 0 0 := by decide +kernel
theorem i251_11 : zi 251 11 12 1 4 0 := by decide +kernel
theorem i251_12 : zi 251 12 13 0 0 4 := by decide +kernel
theorem i251_13 : zi 251 13 14 19 47 3 := by decide +kernel
theorem i251_14 : zi 251 14 15 2 0 0 := by decide +kernel
theorem i251_15 : zi 251 15 16 6 12 43 := by decide +kernel
theorem i251_16 : zi 251 16 17 1 4 0 := by decide +kernel
theorem i251_17 : zi 251 17 18 8 0 0 := by decide +kernel
theorem i251_18 : zi 251 18 19 1 1 0 := by decide +kernel
theorem i251_19 : zi 251 19 20 13 9 0 := by decide +kernel
theorem i251_20 : zi 251 20 21 0 0 1 := by decide +kernel
theorem i251_21 : zi 251 21 22 13 5 0 := by decide +kernel
theorem i251_22 : zi 251 22 23 0 0 1 := by decide +kernel
theorem i251_23 : zi 251 23 24 19 31 0 := by decide +kernel
theorem i251_31 : zi 251 31 32 0 0 1 := by decide +kernel
theorem i251_32 : zi 251 32 33 17 34 0 := by decide +kernel
theorem i251_24 : zi 251 24 25 2 0 0 := by decide +kernel
theorem i251_25 : zi 251 25 26 6 12 44 := by decide +kernel
theorem i251_26 : zi 251 26 27 1 4 0 := by decide +kernel
theorem i251_27 : zi 251 27 28 8 0 0 := by decide +kernel
theorem i251_28 : zi 251 28 29 1 3 0 := by decide +kernel
theorem i251_29 : zi 251 29 30 13 5 0 := by decide +kernel
theorem i251_30 : zi 251 30 31 18 33 0 := by decide +kernel
theorem i251_33 : zi 251 33 34 0 0 0 := by decide +kernel
theorem i251_34 : zi 251 34 35 3 5 0 := by decide +kernel
theorem i251_35 : zi 251 35 36 1 2 0 := by decide +kernel
theorem i251_36 : zi 251 36 37 1 5 0 := by decide +kernel
theorem i251_37 : zi 251 37 38 18 42 0 := by decide +kernel
theorem i251_38 : zi 251 38 39 0 0 1 := by decide +kernel
theorem i251_39 : zi 251 39 40 1 4 0 := by decide +kernel
theorem i251_40 : zi 251 40 41 13 8 0 := by decide +kernel
theorem i251_41 : zi 251 41 42 17 43 0 := by decide +kernel
theorem i251_42 : zi 251 42 43 0 0 0 := by decide +kernel
theorem i251_43 : zi 251 43 44 13 6 0 := by decide +kernel
theorem i251_44 : zi 251 44 45 3 2 0 := by decide +kernel
theorem i251_45 : zi 251 45 46 5 4 1 := by decide +kernel
theorem i251_46 : zi 251 46 47 17 11 0 := by decide +kernel
theorem i251_47 : zi 251 47 48 17 4 0 := by decide +kernel
theorem ml_251 : z_ml 251 = 6 := by decide +kernel
theorem en_251 : ∀ (v0 v1 : zV), z_ent 251 [v0, v1] = [some v0, some v1, none, none, none, none] := fun v0 v1 => by unfold z_ent; rw [ml_251]; rfl
theorem zn_15_0 : zn 15 0 := by unfold zn; decide
set_option maxRecDepth 100000 in
theorem s251_11 {L : Nat} (x1 x2 x3 x4 : Int32) (u5 : Option zV) (S : zS) (g0 : (¬ (4 ≤ x4)) → zx 4 x4) : zt L 251 11 [some (.inr (.inr 13)), some (.inl x1), some (.inl x2), some (.inl x3), some (.inl x4), u5] [] S (if (4 ≤ x4) then (.inl (47, [some (.inr (.inr 13)), some (.inl x1), some (.inl x2), some (.inl x3), some (.inl x4), u5], [], S)) else (.inl (11, [some (.inr (.inr 13)), some (.inl x1), some (.inl (x2 ||| (if ((((zshr (S 107 x4.toNatClampNeg) x1) &&& 1) = 1) ∨ (¬ (((S 108 x4.toNatClampNeg) &&& x3) = 0))) then ((zshl 1 x4) : Int32) else 0))), some (.inl x3), some (.inl (x4 + 1)), some (.inl (zb ((((zshr (S 107 x4.toNatClampNeg) x1) &&& 1) = 1) ∨ (¬ (((S 108 x4.toNatClampNeg) &&& x3) = 0)))))], [], S))) := zr_1_4 i251_11 (zr_0 i251_12 kc_4 (zr_19_3 i251_13 (fun h2415 => zt_rfl) (fun h2416 => zr_2_0 i251_14 (zr_6r i251_15 fl_13_43 (zr_1_4 i251_16 (zr_8 i251_17 ar_107 (g0 h2416) rfl rfl (zr_1_1 i251_18 (zr_13_9 i251_19 (zr_0 i251_20 kc_1 (zr_13_5 i251_21 (zr_0 i251_22 kc_1 (zt_trans (zt_cast (zr_19_0 i251_23 (fun h2417 => zr_0 i251_31 kc_1 (zr_17 i251_32 (zt_rfl))) (fun h2418 => zr_2_0 i251_24 (zr_6r i251_25 fl_13_44 (zr_1_4 i251_26 (zr_8 i251_27 ar_108 (g0 h2416) rfl rfl (zr_1_3 i251_28 (zr_13_5 i251_29 (zt_cast (zr_18_0 i251_30 (fun h2419 => zr_0 i251_33 kc_0 (zt_rfl)) (fun h2420 => zr_0 i251_31 kc_1 (zr_17 i251_32 (zt_rfl)))) (zm_c zz_s (zl_c (zl_t zz_01) zz_s) zz_s))))))))) (zm_c zz_s (zl_c (zl_t zz_1b) zz_s) zz_s)) (zr_3_5 i251_34 (zr_1_2 i251_35 (zr_1_5 i251_36 (zt_trans (zt_cast (zr_18b_0 i251_37 (fun h2421 => zr_0 i251_38 kc_1 (zr_1_4 i251_39 (zr_13_8 i251_40 (zr_17 i251_41 (zt_rfl))))) (fun h2422 => zr_0 i251_42 kc_0 (zt_rfl))) (zm_c zz_s (zl_c (zl_t zz_e) zz_s) zz_s)) (zr_13_6 i251_43 (zr_3_2 i251_44 (zr_5_4 i251_45 kc_1 (zr_17 i251_46 (zt_rfl)))))))))))))))))))))
def k251_11 (x1 x3 : Int32) (S : zS) (j : Nat) (a : Int32 × Option zV) : Int32 × Option zV := ((a.1 ||| (if ((((zshr (S 107 j) x1) &&& 1) = 1) ∨ (¬ (((S 108 j) &&& x3) = 0))) then ((zshl 1 (Int32.ofNat j)) : Int32) else 0)), (some (.inl (zb ((((zshr (S 107 j) x1) &&& 1) = 1) ∨ (¬ (((S 108 j) &&& x3) = 0)))))))
set_option maxRecDepth 100000 in
theorem l251_11 {L : Nat} (x1 x3 : Int32) (S : zS) (i0 n : Nat) (a : Int32 × Option zV) (hn : i0 + n < 2147483648) (hc0 : ∀ j, j < n → ¬ (4 ≤ (Int32.ofNat (i0 + j)))) (g0 : ∀ j, j < n → (¬ (4 ≤ (Int32.ofNat (i0 + j)))) → zx 4 (Int32.ofNat (i0 + j))) : zt L 251 11 [some (.inr (.inr 13)), some (.inl x1), some (.inl a.1), some (.inl x3), some (.inl (Int32.ofNat i0)), a.2] [] S (.inl (11, [some (.inr (.inr 13)), some (.inl x1), some (.inl (zfold (k251_11 x1 x3 S) i0 n a).1), some (.inl x3), some (.inl (Int32.ofNat (i0 + n))), (zfold (k251_11 x1 x3 S) i0 n a).2], [], S)) := by
  induction n with
  | zero => exact zt_rfl
  | succ n ih =>
    have e1 := zk_ix (i0 + n) (by omega)
    have e2 := zk_add (i0 + n)
    refine zt_trans (ih (by omega) (fun j hj => hc0 j (by omega)) (fun j hj => g0 j (by omega))) ?_
    refine zt_cast (s251_11 x1 (zfold (k251_11 x1 x3 S) i0 n a).1 x3 (Int32.ofNat (i0 + n)) (zfold (k251_11 x1 x3 S) i0 n a).2 S (by have hg := g0 n (by omega); first | exact hg | (simp only [e1]; exact hg))) ?_
    rw [if_neg (show ¬ (4 ≤ (Int32.ofNat (i0 + n))) from (by have hg := hc0 n (by omega); first | exact hg | (simp only [e1]; exact hg)))]
    simp only [zfold, k251_11, e1, e2, ← Nat.add_assoc]
def K251_11 (x1 x2 x3 : Int32) (u5 : Option zV) (i0 : Nat) (S : zS) : Int32 × Option zV := zfold (k251_11 x1 x3 S) i0 (4 - i0) (x2, u5)
def K251_11_c2 (x1 x2 x3 : Int32) (u5 : Option zV) (i0 : Nat) (S : zS) : Int32 := (K251_11 x1 x2 x3 u5 i0 S).1
def K251_11_c5 (x1 x2 x3 : Int32) (u5 : Option zV) (i0 : Nat) (S : zS) : Option zV := (K251_11 x1 x2 x3 u5 i0 S).2
set_option maxRecDepth 100000 in
theorem L251_11 {L : Nat} (x1 x2 x3 : Int32) (u5 : Option zV) (i0 : Nat) (S : zS) (hi : i0 ≤ 10000) : zt L 251 11 [some (.inr (.inr 13)), some (.inl x1), some (.inl x2), some (.inl x3), some (.inl (Int32.ofNat i0)), u5] [] S (.inl (47, [some (.inr (.inr 13)), some (.inl x1), some (.inl (K251_11_c2 x1 x2 x3 u5 i0 S)), some (.inl x3), some (.inl (Int32.ofNat (i0 + (4 - i0)))), (K251_11_c5 x1 x2 x3 u5 i0 S)], [], S)) := by
  have hend : 4 ≤ Int32.ofNat (i0 + (4 - i0)) := by exact zc_le_end (show zn 4 4 from by unfold zn; decide) (by omega)
  refine zt_trans (l251_11 x1 x3  S i0 (4 - i0) (x2, u5) (by omega) (fun j hj => by exact zc_le (show zn 4 4 from by unfold zn; decide) hj (by omega)) (fun j hj _ => by exact zx_of (by omega) (by omega))) ?_
  exact zt_cast (s251_11 x1 (zfold (k251_11 x1 x3 S) i0 (4 - i0) (x2, u5)).1 x3 (Int32.ofNat (i0 + (4 - i0))) (zfold (k251_11 x1 x3 S) i0 (4 - i0) (x2, u5)).2 S (fun h9 => absurd hend h9)) (if_pos hend)
set_option maxRecDepth 100000 in
theorem s251_4 {L : Nat} (x1 x2 x3 : Int32) (u4 u5 : Option zV) (S : zS) : zt L 251 4 [some (.inr (.inr 13)), some (.inl x1), some (.inl x2), some (.inl x3), u4, u5] [] S (if (x3 = x2) then (.inl (48, [some (.inr (.inr 13)), some (.inl x1), some (.inl x2), some (.inl x3), u4, u5], [], S)) else (.inl (4, [some (.inr (.inr 13)), some (.inl x1), some (.inl (K251_11_c2 x1 x2 x2 u5 0 S)), some (.inl x2), some (.inl (Int32.ofNat (0 + (4 - 0)))), (K251_11_c5 x1 x2 x2 (u5 : Option zV) 0 S)], [], S))) := zr_1_3 i251_4 (zr_1_2 i251_5 (zr_19_0 i251_6 (fun h2423 => zt_rfl) (fun h2424 => zr_1_2 i251_7 (zr_3_3 i251_8 (zr_0 i251_9 kc_0 (zr_3_4 i251_10 (zt_trans (L251_11 x1 x2 x2 (u5 : Option zV) 0 S (by decide) ) (zr_17 i251_47 (zt_rfl)))))))))
def c251_4 (x1 : Int32) (S : zS) (a : Int32 × Int32 × Option zV × Option zV) : Bool := decide (a.2.1 = a.1)
def kw251_4 (x1 : Int32) (S : zS) (a : Int32 × Int32 × Option zV × Option zV) : Int32 × Int32 × Option zV × Option zV := ((K251_11_c2 x1 a.1 a.1 a.2.2.2 0 S), a.1, (some (.inl (Int32.ofNat (0 + (4 - 0))))), (K251_11_c5 x1 a.1 a.1 a.2.2.2 0 S))
set_option maxRecDepth 100000 in
theorem c251_4_n (x1 : Int32) (S : zS) (a : Int32 × Int32 × Option zV × Option zV) (h : ¬ c251_4 x1 S a = true) : ¬ (a.2.1 = a.1) := by
  unfold c251_4 at h
  simpa only [Bool.or_eq_true, decide_eq_true_eq, not_or] using h
set_option maxRecDepth 100000 in
theorem c251_4_p (x1 : Int32) (S : zS) (a : Int32 × Int32 × Option zV × Option zV) (h : c251_4 x1 S a = true) : (a.2.1 = a.1) := by
  unfold c251_4 at h
  simpa only [Bool.or_eq_true, decide_eq_true_eq] using h
set_option maxRecDepth 100000 in
theorem c251_4_q (x1 : Int32) (S : zS) (a : Int32 × Int32 × Option zV × Option zV) (h : (a.2.1 = a.1)) : c251_4 x1 S a = true := by
  unfold c251_4
  simpa only [Bool.or_eq_true, decide_eq_true_eq] using h
set_option maxRecDepth 100000 in
theorem lw251_4 {L : Nat} (x1 : Int32) (S : zS) (n : Nat) (a : Int32 × Int32 × Option zV × Option zV) : zt L 251 4 [some (.inr (.inr 13)), some (.inl x1), some (.inl a.1), some (.inl a.2.1), a.2.2.1, a.2.2.2] [] S (.inl (4, [some (.inr (.inr 13)), some (.inl x1), some (.inl (zwl (fun a => c251_4 x1 S a = true) (kw251_4 x1 S) n a).1), some (.inl (zwl (fun a => c251_4 x1 S a = true) (kw251_4 x1 S) n a).2.1), (zwl (fun a => c251_4 x1 S a = true) (kw251_4 x1 S) n a).2.2.1, (zwl (fun a => c251_4 x1 S a = true) (kw251_4 x1 S) n a).2.2.2], [], S)) := by
  refine zwl_run (c := fun a => c251_4 x1 S a = true) (f := kw251_4 x1 S) (lv := fun a => [some (.inr (.inr 13)), some (.inl x1), some (.inl a.1), some (.inl a.2.1), a.2.2.1, a.2.2.2]) (S := fun a => S) (a := a) (n := n) (fun j hj hc => ?_)
  refine zt_cast (s251_4 x1 (zwl (fun a => c251_4 x1 S a = true) (kw251_4 x1 S) j a).1 (zwl (fun a => c251_4 x1 S a = true) (kw251_4 x1 S) j a).2.1 (zwl (fun a => c251_4 x1 S a = true) (kw251_4 x1 S) j a).2.2.1 (zwl (fun a => c251_4 x1 S a = true) (kw251_4 x1 S) j a).2.2.2 S ) ?_
  have h9 := c251_4_n x1 S _ hc
  rw [if_neg h9]
  rfl
def K251_4 (x1 x2 x3 : Int32) (u4 u5 : Option zV) (S : zS) : Int32 × Int32 × Option zV × Option zV := (zwl (fun a => c251_4 x1 S a = true) (kw251_4 x1 S) (17 + (x1 - x1).toNatClampNeg) (x2, x3, u4, u5))
def K251_4_c2 (x1 x2 x3 : Int32) (u4 u5 : Option zV) (S : zS) : Int32 := (K251_4 x1 x2 x3 u4 u5 S).1
def K251_4_c3 (x1 x2 x3 : Int32) (u4 u5 : Option zV) (S : zS) : Int32 := (K251_4 x1 x2 x3 u4 u5 S).2.1
def K251_4_c4 (x1 x2 x3 : Int32) (u4 u5 : Option zV) (S : zS) : Option zV := (K251_4 x1 x2 x3 u4 u5 S).2.2.1
def K251_4_c5 (x1 x2 x3 : Int32) (u4 u5 : Option zV) (S : zS) : Option zV := (K251_4 x1 x2 x3 u4 u5 S).2.2.2
set_option maxRecDepth 100000 in
theorem K251_11_zn (x1 x2 x3 : Int32) (u5 : Option zV) (S : zS) (h : zn 15 x2) : zn 15 (K251_11_c2 x1 x2 x3 u5 0 S) ∧ x2.toInt ≤ (K251_11_c2 x1 x2 x3 u5 0 S).toInt := by
  have key : ∀ n, n ≤ 4 → zn 15 (zfold (k251_11 x1 x3 S) 0 n (x2, u5)).1 ∧ x2.toInt ≤ (zfold (k251_11 x1 x3 S) 0 n (x2, u5)).1.toInt := by
    intro n
    induction n with
    | zero => intro _; exact ⟨h, Int.le_refl _⟩
    | succ n ih =>
      intro hn
      obtain ⟨h1, h2⟩ := ih (by omega)
      have := zor_zn h1 (0 + n) (by omega) ((((zshr (S 107 (0 + n)) x1) &&& 1) = 1) ∨ (¬ (((S 108 (0 + n)) &&& x3) = 0)))
      exact ⟨this.1, Int.le_trans h2 this.2⟩
  exact key 4 (Nat.le_refl _)
set_option maxRecDepth 100000 in
theorem L251_4 {L : Nat} (x1 x2 x3 : Int32) (u4 u5 : Option zV) (S : zS) (h0 : zn 15 x2) : zt L 251 4 [some (.inr (.inr 13)), some (.inl x1), some (.inl x2), some (.inl x3), u4, u5] [] S (.inl (48, [some (.inr (.inr 13)), some (.inl x1), some (.inl (K251_4_c2 x1 x2 x3 u4 u5 S)), some (.inl (K251_4_c3 x1 x2 x3 u4 u5 S)), (K251_4_c4 x1 x2 x3 u4 u5 S), (K251_4_c5 x1 x2 x3 u4 u5 S)], [], S)) := by
  have hI : ∀ n : Nat, zn 15 (zwl (fun a => c251_4 x1 S a = true) (kw251_4 x1 S) n (x2, x3, u4, u5)).1 ∧ (c251_4 x1 S (zwl (fun a => c251_4 x1 S a = true) (kw251_4 x1 S) n (x2, x3, u4, u5)) = true ∨ (n : Int) ≤ (zwl (fun a => c251_4 x1 S a = true) (kw251_4 x1 S) n (x2, x3, u4, u5)).1.toInt + 1) := by
    intro n
    induction n with
    | zero => exact ⟨h0, Or.inr (by have := h0.1; show ((0 : Nat) : Int) ≤ x2.toInt + 1; omega)⟩
    | succ n ih =>
      obtain ⟨h1, h2⟩ := ih
      unfold zwl
      by_cases hc : c251_4 x1 S (zwl (fun a => c251_4 x1 S a = true) (kw251_4 x1 S) n (x2, x3, u4, u5)) = true
      · rw [if_pos hc]; exact ⟨h1, Or.inl hc⟩
      · rw [if_neg hc]
        have h3 := h2.resolve_left hc
        obtain ⟨h4, h5⟩ := K251_11_zn x1 (zwl (fun a => c251_4 x1 S a = true) (kw251_4 x1 S) n (x2, x3, u4, u5)).1 (zwl (fun a => c251_4 x1 S a = true) (kw251_4 x1 S) n (x2, x3, u4, u5)).1 (zwl (fun a => c251_4 x1 S a = true) (kw251_4 x1 S) n (x2, x3, u4, u5)).2.2.2 S h1
        refine ⟨h4, ?_⟩
        by_cases he : (zwl (fun a => c251_4 x1 S a = true) (kw251_4 x1 S) n (x2, x3, u4, u5)).1 = K251_11_c2 x1 (zwl (fun a => c251_4 x1 S a = true) (kw251_4 x1 S) n (x2, x3, u4, u5)).1 (zwl (fun a => c251_4 x1 S a = true) (kw251_4 x1 S) n (x2, x3, u4, u5)).1 (zwl (fun a => c251_4 x1 S a = true) (kw251_4 x1 S) n (x2, x3, u4, u5)).2.2.2 0 S
        · exact Or.inl (decide_eq_true he)
        · refine Or.inr ?_
          have h6 : (zwl (fun a => c251_4 x1 S a = true) (kw251_4 x1 S) n (x2, x3, u4, u5)).1.toInt ≠ (K251_11_c2 x1 (zwl (fun a => c251_4 x1 S a = true) (kw251_4 x1 S) n (x2, x3, u4, u5)).1 (zwl (fun a => c251_4 x1 S a = true) (kw251_4 x1 S) n (x2, x3, u4, u5)).1 (zwl (fun a => c251_4 x1 S a = true) (kw251_4 x1 S) n (x2, x3, u4, u5)).2.2.2 0 S).toInt := fun h9 => he (zk_eq.mpr h9)
          show ((n + 1 : Nat) : Int) ≤ (K251_11_c2 x1 (zwl (fun a => c251_4 x1 S a = true) (kw251_4 x1 S) n (x2, x3, u4, u5)).1 (zwl (fun a => c251_4 x1 S a = true) (kw251_4 x1 S) n (x2, x3, u4, u5)).1 (zwl (fun a => c251_4 x1 S a = true) (kw251_4 x1 S) n (x2, x3, u4, u5)).2.2.2 0 S).toInt + 1
          omega
  have hend : c251_4 x1 S (zwl (fun a => c251_4 x1 S a = true) (kw251_4 x1 S) (17 + (x1 - x1).toNatClampNeg) (x2, x3, u4, u5)) = true := by
    have hfu : (17 + (x1 - x1).toNatClampNeg) = 17 := by rw [Int32.sub_self]; rfl
    rw [hfu]
    obtain ⟨h1, h2⟩ := hI 17
    generalize (zwl (fun a => c251_4 x1 S a = true) (kw251_4 x1 S) 17 (x2, x3, u4, u5)) = w at h1 h2 ⊢
    rcases h2 with h2 | h2
    · exact h2
    · unfold zn at h1; omega
  refine zt_trans (lw251_4 x1 S (17 + (x1 - x1).toNatClampNeg) (x2, x3, u4, u5)) ?_
  exact zt_cast (s251_4 x1 _ _ _ _ S) (if_pos (of_decide_eq_true hend))
set_option maxRecDepth 100000 in
theorem f251 {L : Nat} (a : Int32) (S : zS) : zf L 251 [.inr (.inr 13), .inl a] S (.inl (some (.inl (K251_4_c2 a 0 (-1) (none : Option zV) (none : Option zV) S))), S, 0) := zf_of (en_251 _ _) (zr_0 i251_0 kc_0 (zr_3_2 i251_1 (zr_0 i251_2 kc_m1 (zr_3_3 i251_3 (zt_trans (L251_4 a 0 (-1) (none : Option zV) (none : Option zV)  S  (zn_15_0)) (zr_1_2 i251_48 (zr_25 i251_49)))))))
