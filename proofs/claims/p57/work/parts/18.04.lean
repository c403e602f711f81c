/-! the methods with loops, and what calls them (wip/p57/gen/gen18.py) -/
theorem i112_0 : zi 112 0 1 2 2 0 := by decide +kernel
theorem i112_1 : zi 112 1 2 21 37 4 := by decide +kernel
theorem i112_2 : zi 112 2 3 3 4 0 := by decide +kernel
theorem i112_3 : zi 112 3 4 0 0 0 := by decide +kernel
theorem i112_4 : zi 112 4 5 3 5 0 := by decide +kernel
theorem i112_5 : zi 112 5 6 0 0 0 := by decide +kernel
theorem i112_6 : zi 112 6 7 3 6 0 := by decide +kernel
theorem i112_7 : zi 112 7 8 1 6 0 := by decide +kernel
theorem i112_8 : zi 112 8 9 0 0 216 := by decide +kernel
theorem i112_9 : zi 112 9 10 19 69 3 := by decide +kernel
theorem i112_10 : zi 112 10 11 0 0 1 := by decide +kernel
theorem i112_11 : zi 112 11 12 2 0 0 := by decide +kernel
theorem i112_12 : zi 112 12 13 6 9 0 := by decide +kernel
theorem i112_13 : zi 112 13 14 1 6 0 := by decide +kernel
theorem i112_14 : zi 112 14 15 8 0 0 := by decide +kernel
theorem i112_15 : zi 112 15 16 0 0 4 := by decide +kernel
theorem i112_16 : zi 112 16 17 13 1 0 := by decide +kernel
theorem i112_17 : zi 112 17 18 0 0 1 := by decide +kernel
theorem i112_18 : zi 112 18 19 13 0 0 := by decide +kernel
theorem i112_19 : zi 112 19 20 23 0 0 := by decide +kernel
theorem i112_20 : zi 112 20 21 3 7 0 := by decide +kernel
theorem i112_69 : zi 112 69 70 1 5 0 := by decide +kernel
theorem i112_70 : zi 112 70 71 25 0 0 := by decide +kernel
theorem i112_21 : zi 112 21 22 1 7 0 := by decide +kernel
theorem i112_22 : zi 112 22 23 2 0 0 := by decide +kernel
theorem i112_23 : zi 112 23 24 6 9 0 := by decide +kernel
theorem i112_24 : zi 112 24 25 1 6 0 := by decide +kernel
theorem i112_25 : zi 112 25 26 8 0 0 := by decide +kernel
theorem i112_26 : zi 112 26 27 19 67 4 := by decide +kernel
theorem i112_27 : zi 112 27 28 1 5 0 := by decide +kernel
theorem i112_28 : zi 112 28 29 1 1 0 := by decide +kernel
theorem i112_29 : zi 112 29 30 19 67 3 := by decide +kernel
theorem i112_30 : zi 112 30 31 1 6 0 := by decide +kernel
theorem i112_31 : zi 112 31 32 0 0 4 := by decide +kernel
theorem i112_32 : zi 112 32 33 13 2 0 := by decide +kernel
theorem i112_33 : zi 112 33 34 1 7 0 := by decide +kernel
theorem i112_34 : zi 112 34 35 0 0 4 := by decide +kernel
theorem i112_35 : zi 112 35 36 22 323 0 := by decide +kernel
theorem i112_36 : zi 112 36 37 13 0 0 := by decide +kernel
theorem i112_37 : zi 112 37 38 3 8 0 := by decide +kernel
theorem i112_38 : zi 112 38 39 2 0 0 := by decide +kernel
theorem i112_39 : zi 112 39 40 6 9 3 := by decide +kernel
theorem i112_40 : zi 112 40 41 1 8 0 := by decide +kernel
theorem i112_41 : zi 112 41 42 8 0 0 := by decide +kernel
theorem i112_42 : zi 112 42 43 0 0 2 := by decide +kernel
theorem i112_43 : zi 112 43 44 19 65 0 := by decide +kernel
theorem i112_44 : zi 112 44 45 2 0 0 := by decide +kernel
theorem i112_45 : zi 112 45 46 6 9 2 := by decide +kernel
theorem i112_46 : zi 112 46 47 1 8 0 := by decide +kernel
theorem i112_47 : zi 112 47 48 8 0 0 := by decide +kernel
theorem i112_48 : zi 112 48 49 1 4 0 := by decide +kernel
theorem i112_49 : zi 112 49 50 19 65 3 := by decide +kernel
theorem i112_50 : zi 112 50 51 2 0 0 := by decide +kernel
theorem i112_51 : zi 112 51 52 6 9 2 := by decide +kernel
theorem i112_52 : zi 112 52 53 1 8 0 := by decide +kernel
theorem i112_53 : zi 112 53 54 8 0 0 := by decide +kernel
theorem i112_54 : zi 112 54 55 2 2 0 := by decide +kernel
theorem i112_55 : zi 112 55 56 21 38 4 := by decide +kernel
theorem i112_56 : zi 112 56 57 19 65 2 := by decide +kernel
theorem i112_57 : zi 112 57 58 2 0 0 := by decide +kernel
theorem i112_58 : zi 112 58 59 6 9 2 := by decide +kernel
theorem i112_59 : zi 112 59 60 1 8 0 := by decide +kernel
theorem i112_60 : zi 112 60 61 2 2 0 := by decide +kernel
theorem i112_61 : zi 112 61 62 1 3 0 := by decide +kernel
theorem i112_62 : zi 112 62 63 21 41 4 := by decide +kernel
theorem i112_63 : zi 112 63 64 10 0 0 := by decide +kernel
theorem i112_64 : zi 112 64 65 5 5 1 := by decide +kernel
theorem i112_65 : zi 112 65 66 5 7 1 := by decide +kernel
theorem i112_66 : zi 112 66 67 17 21 0 := by decide +kernel
theorem i112_67 : zi 112 67 68 5 6 1 := by decide +kernel
theorem i112_68 : zi 112 68 69 17 7 0 := by decide +kernel
theorem ml_112 : z_ml 112 = 9 := by decide +kernel
theorem en_112 : ∀ (v0 v1 v2 v3 : zV), z_ent 112 [v0, v1, v2, v3] = [some v0, some v1, some v2, some v3, none, none, none, none, none] := fun v0 v1 v2 v3 => by unfold z_ent; rw [ml_112]; rfl
set_option maxRecDepth 100000 in
theorem s112_7_2_21 {L : Nat} (x1 x3 x4 x5 x6 x7 : Int32) (u8 : Option zV) (S : zS) (g0 : zx 216 x6) (g1 : (¬ ((S 51 x6.toNatClampNeg) < x7)) → (¬ (x1 ≤ x5)) → zx 864 ((x6 * 4) + (F323 x7 4 S))) : zt L 112 21 [some (.inr (.inr 7)), some (.inl x1), some (.inr (.inr 2)), some (.inl x3), some (.inl x4), some (.inl x5), some (.inl x6), some (.inl x7), u8] [] S (if ((S 51 x6.toNatClampNeg) < x7) then (.inl (67, [some (.inr (.inr 7)), some (.inl x1), some (.inr (.inr 2)), some (.inl x3), some (.inl x4), some (.inl x5), some (.inl x6), some (.inl x7), u8], [], S)) else (if (x1 ≤ x5) then (.inl (67, [some (.inr (.inr 7)), some (.inl x1), some (.inr (.inr 2)), some (.inl x3), some (.inl x4), some (.inl x5), some (.inl x6), some (.inl x7), u8], [], S)) else (.inl (21, [some (.inr (.inr 7)), some (.inl x1), some (.inr (.inr 2)), some (.inl x3), some (.inl x4), some (.inl (if ((S 54 ((x6 * 4) + (F323 x7 4 S)).toNatClampNeg) = 2) then (x5 : Int32) else (if (x4 ≤ (S 53 ((x6 * 4) + (F323 x7 4 S)).toNatClampNeg)) then (x5 : Int32) else (if ((S 53 ((x6 * 4) + (F323 x7 4 S)).toNatClampNeg) < (S 2 3)) then (x5 : Int32) else (x5 + 1))))), some (.inl x6), some (.inl (x7 + 1)), some (.inl ((x6 * 4) + (F323 x7 4 S)))], [], (if ((S 54 ((x6 * 4) + (F323 x7 4 S)).toNatClampNeg) = 2) then S else (if (x4 ≤ (S 53 ((x6 * 4) + (F323 x7 4 S)).toNatClampNeg)) then S else (if ((S 53 ((x6 * 4) + (F323 x7 4 S)).toNatClampNeg) < (S 2 3)) then S else (z_up (G41 x3 S) 53 ((x6 * 4) + (F323 x7 4 S)).toNatClampNeg (F41 x3 S))))))))) := zr_1_7 i112_21 (zr_2_0 i112_22 (zr_6r i112_23 fl_7_0 (zr_1_6 i112_24 (zr_8 i112_25 ar_51 (g0) rfl rfl (zr_19_4 i112_26 (fun h969 => zt_rfl) (fun h970 => zr_1_5 i112_27 (zr_1_1 i112_28 (zr_19_3 i112_29 (fun h971 => zt_rfl) (fun h972 => zr_1_6 i112_30 (zr_0 i112_31 kc_4 (zr_13_2 i112_32 (zr_1_7 i112_33 (zr_0 i112_34 kc_4 (zr_cv (zs_22_2 i112_35 na_323 rfl) (f323 x7 4 S nz_4) (zr_13_0 i112_36 (zr_3_8 i112_37 (zr_2_0 i112_38 (zr_6r i112_39 fl_7_3 (zr_1_8 i112_40 (zr_8 i112_41 ar_54 (g1 h970 h972) rfl rfl (zr_0 i112_42 kc_2 (zt_trans (zt_cast (zr_19_0 i112_43 (fun h973 => zt_rfl) (fun h974 => zr_2_0 i112_44 (zr_6r i112_45 fl_7_2 (zr_1_8 i112_46 (zr_8 i112_47 ar_53 (g1 h970 h972) rfl rfl (zr_1_4 i112_48 (zt_cast (zr_19_3 i112_49 (fun h975 => zt_rfl) (fun h976 => zr_2_0 i112_50 (zr_6r i112_51 fl_7_2 (zr_1_8 i112_52 (zr_8 i112_53 ar_53 (g1 h970 h972) rfl rfl (zr_2_2 i112_54 (zr_cv (zs_21_0 i112_55 na_38 ob_2 rfl) (f38  S ) (zt_cast (zr_19_2 i112_56 (fun h977 => zt_rfl) (fun h978 => zr_2_0 i112_57 (zr_6r i112_58 fl_7_2 (zr_1_8 i112_59 (zr_2_2 i112_60 (zr_1_3 i112_61 (zr_cv (zs_21_1 i112_62 na_41 ob_2 rfl) (f41 x3 S ) (zr_10 i112_63 ar_53 (g1 h970 h972) rfl (zr_5_5 i112_64 kc_1 (zt_rfl)))))))))) (zm_c (zl_c zz_s (zl_c zz_s (zl_c zz_s (zl_c zz_s (zl_c zz_s (zl_c (zl_v zz_e) zz_s)))))) zz_s zz_e))))))))) (zm_c (zl_c zz_s (zl_c zz_s (zl_c zz_s (zl_c zz_s (zl_c zz_s (zl_c (zl_v zz_e) zz_s)))))) zz_s zz_e)))))))) (zm_c (zl_c zz_s (zl_c zz_s (zl_c zz_s (zl_c zz_s (zl_c zz_s (zl_c (zl_v zz_e) zz_s)))))) zz_s zz_e)) (zr_5_7 i112_65 kc_1 (zr_17 i112_66 (zt_rfl)))))))))))))))))))))))))
set_option maxRecDepth 100000 in
theorem w_G41_51 (a : Int32) (S : zS) : G41 a S 51 = S 51 := (show (z_up (if ((S 2 4) ≤ (S 2 1)) then (z_up (z_up (z_up S 2 0 ((S 2 0) + 1)) 2 1 0) 2 2 a) else (if ((a - (S 2 2)) < (S 2 5)) then S else (z_up (z_up (z_up S 2 0 ((S 2 0) + 1)) 2 1 0) 2 2 a))) 2 1 (((if ((S 2 4) ≤ (S 2 1)) then (z_up (z_up (z_up S 2 0 ((S 2 0) + 1)) 2 1 0) 2 2 a) else (if ((a - (S 2 2)) < (S 2 5)) then S else (z_up (z_up (z_up S 2 0 ((S 2 0) + 1)) 2 1 0) 2 2 a))) 2 1) + 1)) 51 = S 51 from ((zupc rfl).trans (zite_k ((zupc rfl).trans ((zupc rfl).trans (zupc rfl))) (zite_k rfl ((zupc rfl).trans ((zupc rfl).trans (zupc rfl)))))))
def c112_7_2_21 (x1 x3 x4 x6 : Int32) (a : Int32 × Int32 × Option zV × zS) : Bool := decide ((a.2.2.2 51 x6.toNatClampNeg) < a.2.1) || decide (x1 ≤ a.1)
def kw112_7_2_21 (x1 x3 x4 x6 : Int32) (a : Int32 × Int32 × Option zV × zS) : Int32 × Int32 × Option zV × zS := ((if ((a.2.2.2 54 ((x6 * 4) + (F323 a.2.1 4 a.2.2.2)).toNatClampNeg) = 2) then (a.1 : Int32) else (if (x4 ≤ (a.2.2.2 53 ((x6 * 4) + (F323 a.2.1 4 a.2.2.2)).toNatClampNeg)) then (a.1 : Int32) else (if ((a.2.2.2 53 ((x6 * 4) + (F323 a.2.1 4 a.2.2.2)).toNatClampNeg) < (a.2.2.2 2 3)) then (a.1 : Int32) else (a.1 + 1)))), (a.2.1 + 1), (some (.inl ((x6 * 4) + (F323 a.2.1 4 a.2.2.2)))), (if ((a.2.2.2 54 ((x6 * 4) + (F323 a.2.1 4 a.2.2.2)).toNatClampNeg) = 2) then a.2.2.2 else (if (x4 ≤ (a.2.2.2 53 ((x6 * 4) + (F323 a.2.1 4 a.2.2.2)).toNatClampNeg)) then a.2.2.2 else (if ((a.2.2.2 53 ((x6 * 4) + (F323 a.2.1 4 a.2.2.2)).toNatClampNeg) < (a.2.2.2 2 3)) then a.2.2.2 else (z_up (G41 x3 a.2.2.2) 53 ((x6 * 4) + (F323 a.2.1 4 a.2.2.2)).toNatClampNeg (F41 x3 a.2.2.2))))))
set_option maxRecDepth 100000 in
theorem c112_7_2_21_n (x1 x3 x4 x6 : Int32) (a : Int32 × Int32 × Option zV × zS) (h : ¬ c112_7_2_21 x1 x3 x4 x6 a = true) : ¬ ((a.2.2.2 51 x6.toNatClampNeg) < a.2.1) ∧ ¬ (x1 ≤ a.1) := by
  unfold c112_7_2_21 at h
  simpa only [Bool.or_eq_true, decide_eq_true_eq, not_or] using h
set_option maxRecDepth 100000 in
theorem c112_7_2_21_p (x1 x3 x4 x6 : Int32) (a : Int32 × Int32 × Option zV × zS) (h : c112_7_2_21 x1 x3 x4 x6 a = true) : ((a.2.2.2 51 x6.toNatClampNeg) < a.2.1) ∨ (x1 ≤ a.1) := by
  unfold c112_7_2_21 at h
  simpa only [Bool.or_eq_true, decide_eq_true_eq] using h
set_option maxRecDepth 100000 in
theorem c112_7_2_21_q (x1 x3 x4 x6 : Int32) (a : Int32 × Int32 × Option zV × zS) (h : ((a.2.2.2 51 x6.toNatClampNeg) < a.2.1) ∨ (x1 ≤ a.1)) : c112_7_2_21 x1 x3 x4 x6 a = true := by
  unfold c112_7_2_21
  simpa only [Bool.or_eq_true, decide_eq_true_eq] using h
set_option maxRecDepth 100000 in
theorem lw112_7_2_21 {L : Nat} (x1 x3 x4 x6 : Int32) (n : Nat) (a : Int32 × Int32 × Option zV × zS) (g0 : ∀ j, j < n → zx 216 x6) (g1 : ∀ j, j < n → (¬ (((zwl (fun a => c112_7_2_21 x1 x3 x4 x6 a = true) (kw112_7_2_21 x1 x3 x4 x6) j a).2.2.2 51 x6.toNatClampNeg) < (zwl (fun a => c112_7_2_21 x1 x3 x4 x6 a = true) (kw112_7_2_21 x1 x3 x4 x6) j a).2.1)) → (¬ (x1 ≤ (zwl (fun a => c112_7_2_21 x1 x3 x4 x6 a = true) (kw112_7_2_21 x1 x3 x4 x6) j a).1)) → zx 864 ((x6 * 4) + (F323 (zwl (fun a => c112_7_2_21 x1 x3 x4 x6 a = true) (kw112_7_2_21 x1 x3 x4 x6) j a).2.1 4 (zwl (fun a => c112_7_2_21 x1 x3 x4 x6 a = true) (kw112_7_2_21 x1 x3 x4 x6) j a).2.2.2))) : zt L 112 21 [some (.inr (.inr 7)), some (.inl x1), some (.inr (.inr 2)), some (.inl x3), some (.inl x4), some (.inl a.1), some (.inl x6), some (.inl a.2.1), a.2.2.1] [] a.2.2.2 (.inl (21, [some (.inr (.inr 7)), some (.inl x1), some (.inr (.inr 2)), some (.inl x3), some (.inl x4), some (.inl (zwl (fun a => c112_7_2_21 x1 x3 x4 x6 a = true) (kw112_7_2_21 x1 x3 x4 x6) n a).1), some (.inl x6), some (.inl (zwl (fun a => c112_7_2_21 x1 x3 x4 x6 a = true) (kw112_7_2_21 x1 x3 x4 x6) n a).2.1), (zwl (fun a => c112_7_2_21 x1 x3 x4 x6 a = true) (kw112_7_2_21 x1 x3 x4 x6) n a).2.2.1], [], (zwl (fun a => c112_7_2_21 x1 x3 x4 x6 a = true) (kw112_7_2_21 x1 x3 x4 x6) n a).2.2.2)) := by
  refine zwl_run (c := fun a => c112_7_2_21 x1 x3 x4 x6 a = true) (f := kw112_7_2_21 x1 x3 x4 x6) (lv := fun a => [some (.inr (.inr 7)), some (.inl x1), some (.inr (.inr 2)), some (.inl x3), some (.inl x4), some (.inl a.1), some (.inl x6), some (.inl a.2.1), a.2.2.1]) (S := fun a => a.2.2.2) (a := a) (n := n) (fun j hj hc => ?_)
  refine zt_cast (s112_7_2_21 x1 x3 x4 (zwl (fun a => c112_7_2_21 x1 x3 x4 x6 a = true) (kw112_7_2_21 x1 x3 x4 x6) j a).1 x6 (zwl (fun a => c112_7_2_21 x1 x3 x4 x6 a = true) (kw112_7_2_21 x1 x3 x4 x6) j a).2.1 (zwl (fun a => c112_7_2_21 x1 x3 x4 x6 a = true) (kw112_7_2_21 x1 x3 x4 x6) j a).2.2.1 (zwl (fun a => c112_7_2_21 x1 x3 x4 x6 a = true) (kw112_7_2_21 x1 x3 x4 x6) j a).2.2.2 (g0 j hj) (g1 j hj)) ?_
  have h9 := c112_7_2_21_n x1 x3 x4 x6 _ hc
  rw [if_neg h9.1, if_neg h9.2]
  rfl
def K112_7_2_21 (x1 x3 x4 x5 x6 x7 : Int32) (u8 : Option zV) (S : zS) : Int32 × Int32 × Option zV × zS := (zwl (fun a => c112_7_2_21 x1 x3 x4 x6 a = true) (kw112_7_2_21 x1 x3 x4 x6) (4 + (x1 - x1).toNatClampNeg) (x5, x7, u8, S))
def K112_7_2_21_c5 (x1 x3 x4 x5 x6 x7 : Int32) (u8 : Option zV) (S : zS) : Int32 := (K112_7_2_21 x1 x3 x4 x5 x6 x7 u8 S).1
def K112_7_2_21_c7 (x1 x3 x4 x5 x6 x7 : Int32) (u8 : Option zV) (S : zS) : Int32 := (K112_7_2_21 x1 x3 x4 x5 x6 x7 u8 S).2.1
def K112_7_2_21_c8 (x1 x3 x4 x5 x6 x7 : Int32) (u8 : Option zV) (S : zS) : Option zV := (K112_7_2_21 x1 x3 x4 x5 x6 x7 u8 S).2.2.1
def K112_7_2_21_S (x1 x3 x4 x5 x6 x7 : Int32) (u8 : Option zV) (S : zS) : zS := (K112_7_2_21 x1 x3 x4 x5 x6 x7 u8 S).2.2.2
set_option maxRecDepth 100000 in
theorem Hk112_7_2_21 (x1 x3 x4 x5 x6 x7 : Int32) (u8 : Option zV) (S : zS) (n : Nat) : (zwl (fun a => c112_7_2_21 x1 x3 x4 x6 a = true) (kw112_7_2_21 x1 x3 x4 x6) n (x5, x7, u8, S)).2.2.2 51 = S 51 := zwl_inv (I := fun (b : Int32 × Int32 × Option zV × zS) => b.2.2.2 51 = S 51) rfl (fun b _ hb => ((show (if ((b.2.2.2 54 ((x6 * 4) + (F323 b.2.1 4 b.2.2.2)).toNatClampNeg) = 2) then b.2.2.2 else (if (x4 ≤ (b.2.2.2 53 ((x6 * 4) + (F323 b.2.1 4 b.2.2.2)).toNatClampNeg)) then b.2.2.2 else (if ((b.2.2.2 53 ((x6 * 4) + (F323 b.2.1 4 b.2.2.2)).toNatClampNeg) < (b.2.2.2 2 3)) then b.2.2.2 else (z_up (G41 x3 b.2.2.2) 53 ((x6 * 4) + (F323 b.2.1 4 b.2.2.2)).toNatClampNeg (F41 x3 b.2.2.2))))) 51 = b.2.2.2 51 from (zite_k rfl (zite_k rfl (zite_k rfl ((zupc rfl).trans (w_G41_51 _ _))))))).trans hb)
set_option maxRecDepth 100000 in
theorem Hw112_7_2_21 (x1 x3 x4 x5 x6 x7 : Int32) (u8 : Option zV) (a : Int32 × Int32 × Option zV × zS) : (kw112_7_2_21 x1 x3 x4 x6 a).2.1 = a.2.1 + 1 := rfl
set_option maxRecDepth 100000 in
theorem HI112_7_2_21 (x1 x3 x4 x5 x6 x7 : Int32) (u8 : Option zV) (S : zS) (hl1 : -100 ≤ x7.toInt) (hl2 : x7.toInt < 100000) : ∀ n, n ≤ 4 → (c112_7_2_21 x1 x3 x4 x6 (zwl (fun a => c112_7_2_21 x1 x3 x4 x6 a = true) (kw112_7_2_21 x1 x3 x4 x6) n (x5, x7, u8, S)) = true ∨ ((zwl (fun a => c112_7_2_21 x1 x3 x4 x6 a = true) (kw112_7_2_21 x1 x3 x4 x6) n (x5, x7, u8, S)).2.1).toInt = x7.toInt + n) ∧ x7.toInt ≤ ((zwl (fun a => c112_7_2_21 x1 x3 x4 x6 a = true) (kw112_7_2_21 x1 x3 x4 x6) n (x5, x7, u8, S)).2.1).toInt ∧ ((zwl (fun a => c112_7_2_21 x1 x3 x4 x6 a = true) (kw112_7_2_21 x1 x3 x4 x6) n (x5, x7, u8, S)).2.1).toInt ≤ x7.toInt + n := by
  intro n
  induction n with
  | zero => intro _; exact ⟨Or.inr (show x7.toInt = x7.toInt + ((0 : Nat) : Int) by omega), Int.le_refl _, (show x7.toInt ≤ x7.toInt + ((0 : Nat) : Int) by omega)⟩
  | succ n ih =>
    intro hn
    have h := ih (by omega)
    simp only [zwl]
    generalize (zwl (fun a => c112_7_2_21 x1 x3 x4 x6 a = true) (kw112_7_2_21 x1 x3 x4 x6) n (x5, x7, u8, S)) = w at h ⊢
    obtain ⟨h1, h2, h3⟩ := h
    by_cases hc : c112_7_2_21 x1 x3 x4 x6 w = true
    · rw [if_pos hc]; exact ⟨Or.inl hc, h2, by omega⟩
    · rw [if_neg hc, Hw112_7_2_21 x1 x3 x4 x5 x6 x7 u8]
      have h4 := h1.resolve_left hc
      have e1 : (w.2.1 + 1).toInt = (w.2.1).toInt + 1 := zk_tadd (by rw [zk_1]; omega) (by rw [zk_1]; omega)
      rw [e1]
      exact ⟨Or.inr (by omega), by omega, by omega⟩
set_option maxRecDepth 100000 in
theorem He112_7_2_21 (x1 x3 x4 x5 x6 x7 : Int32) (u8 : Option zV) (S : zS) (hl1 : -100 ≤ x7.toInt) (hl2 : x7.toInt < 100000) (hl3 : (S 51 x6.toNatClampNeg).toInt < x7.toInt + 4) : c112_7_2_21 x1 x3 x4 x6 (zwl (fun a => c112_7_2_21 x1 x3 x4 x6 a = true) (kw112_7_2_21 x1 x3 x4 x6) (4 + (x1 - x1).toNatClampNeg) (x5, x7, u8, S)) = true := by
  have hfu : (4 + (x1 - x1).toNatClampNeg) = 4 := by rw [Int32.sub_self]; rfl
  rw [hfu]
  have hI := HI112_7_2_21 x1 x3 x4 x5 x6 x7 u8 S hl1 hl2 4 (Nat.le_refl _)
  have hk := Hk112_7_2_21 x1 x3 x4 x5 x6 x7 u8 S 4
  generalize (zwl (fun a => c112_7_2_21 x1 x3 x4 x6 a = true) (kw112_7_2_21 x1 x3 x4 x6) 4 (x5, x7, u8, S)) = w at hI hk ⊢
  obtain ⟨h1, h2, h3⟩ := hI
  rcases h1 with h1 | h1
  · exact h1
  · refine c112_7_2_21_q x1 x3 x4 x6 w (Or.inl ?_)
    rw [hk, zk_lt]
    exact zrw_end h1 hl3
set_option maxRecDepth 100000 in
theorem L112_7_2_21 {L : Nat} (x1 x3 x4 x5 x6 x7 : Int32) (u8 : Option zV) (S : zS) (hp : zx 216 x6) (hl : zrw (S 51 x6.toNatClampNeg) x7) : zt L 112 21 [some (.inr (.inr 7)), some (.inl x1), some (.inr (.inr 2)), some (.inl x3), some (.inl x4), some (.inl x5), some (.inl x6), some (.inl x7), u8] [] S (.inl (67, [some (.inr (.inr 7)), some (.inl x1), some (.inr (.inr 2)), some (.inl x3), some (.inl x4), some (.inl (K112_7_2_21_c5 x1 x3 x4 x5 x6 x7 u8 S)), some (.inl x6), some (.inl (K112_7_2_21_c7 x1 x3 x4 x5 x6 x7 u8 S)), (K112_7_2_21_c8 x1 x3 x4 x5 x6 x7 u8 S)], [], (K112_7_2_21_S x1 x3 x4 x5 x6 x7 u8 S))) := by
  obtain ⟨hl1, hl2, hl3⟩ := hl
  have hend := He112_7_2_21 x1 x3 x4 x5 x6 x7 u8 S hl1 hl2 hl3
  have hfu : (4 + (x1 - x1).toNatClampNeg) = 4 := by rw [Int32.sub_self]; rfl
  have hrun := lw112_7_2_21 (L := L) x1 x3 x4 x6 (4 + (x1 - x1).toNatClampNeg) (x5, x7, u8, S) (fun j hj  => hp) (fun j hj _ _ => zx_slot hp (zfm_zn _ _))
  have hst := fun (a : Int32 × Int32 × Option zV × zS) => s112_7_2_21 (L := L) x1 x3 x4 a.1 x6 a.2.1 a.2.2.1 a.2.2.2
  refine zt_trans hrun ?_
  have hend2 := c112_7_2_21_p x1 x3 x4 x6 _ hend
  show zt L 112 21 [some (.inr (.inr 7)), some (.inl x1), some (.inr (.inr 2)), some (.inl x3), some (.inl x4), some (.inl (zwl (fun a => c112_7_2_21 x1 x3 x4 x6 a = true) (kw112_7_2_21 x1 x3 x4 x6) (4 + (x1 - x1).toNatClampNeg) (x5, x7, u8, S)).1), some (.inl x6), some (.inl (zwl (fun a => c112_7_2_21 x1 x3 x4 x6 a = true) (kw112_7_2_21 x1 x3 x4 x6) (4 + (x1 - x1).toNatClampNeg) (x5, x7, u8, S)).2.1), (zwl (fun a => c112_7_2_21 x1 x3 x4 x6 a = true) (kw112_7_2_21 x1 x3 x4 x6) (4 + (x1 - x1).toNatClampNeg) (x5, x7, u8, S)).2.2.1] [] (zwl (fun a => c112_7_2_21 x1 x3 x4 x6 a = true) (kw112_7_2_21 x1 x3 x4 x6) (4 + (x1 - x1).toNatClampNeg) (x5, x7, u8, S)).2.2.2 (.inl (67, [some (.inr (.inr 7)), some (.inl x1), some (.inr (.inr 2)), some (.inl x3), some (.inl x4), some (.inl (zwl (fun a => c112_7_2_21 x1 x3 x4 x6 a = true) (kw112_7_2_21 x1 x3 x4 x6) (4 + (x1 - x1).toNatClampNeg) (x5, x7, u8, S)).1), some (.inl x6), some (.inl (zwl (fun a => c112_7_2_21 x1 x3 x4 x6 a = true) (kw112_7_2_21 x1 x3 x4 x6) (4 + (x1 - x1).toNatClampNeg) (x5, x7, u8, S)).2.1), (zwl (fun a => c112_7_2_21 x1 x3 x4 x6 a = true) (kw112_7_2_21 x1 x3 x4 x6) (4 + (x1 - x1).toNatClampNeg) (x5, x7, u8, S)).2.2.1], [], (zwl (fun a => c112_7_2_21 x1 x3 x4 x6 a = true) (kw112_7_2_21 x1 x3 x4 x6) (4 + (x1 - x1).toNatClampNeg) (x5, x7, u8, S)).2.2.2))
  exact zt_cast (hst (zwl (fun a => c112_7_2_21 x1 x3 x4 x6 a = true) (kw112_7_2_21 x1 x3 x4 x6) (4 + (x1 - x1).toNatClampNeg) (x5, x7, u8, S)) hp (fun a9 b9 => (hend2.elim a9 b9).elim)) (zte_2 hend2)
set_option maxRecDepth 100000 in
theorem s112_7_2_7 {L : Nat} (x1 x3 x4 x5 x6 : Int32) (u7 u8 : Option zV) (S : zS) (g0 : (¬ (216 ≤ x6)) → zx 216 x6) (g1 : (¬ (216 ≤ x6)) → zrw (S 51 x6.toNatClampNeg) (zmax 1 (((S 51 x6.toNatClampNeg) - 4) + 1))) : zt L 112 7 [some (.inr (.inr 7)), some (.inl x1), some (.inr (.inr 2)), some (.inl x3), some (.inl x4), some (.inl x5), some (.inl x6), u7, u8] [] S (if (216 ≤ x6) then (.inl (69, [some (.inr (.inr 7)), some (.inl x1), some (.inr (.inr 2)), some (.inl x3), some (.inl x4), some (.inl x5), some (.inl x6), u7, u8], [], S)) else (.inl (7, [some (.inr (.inr 7)), some (.inl x1), some (.inr (.inr 2)), some (.inl x3), some (.inl x4), some (.inl (K112_7_2_21_c5 x1 x3 x4 x5 x6 (zmax 1 (((S 51 x6.toNatClampNeg) - 4) + 1)) u8 S)), some (.inl (x6 + 1)), some (.inl (K112_7_2_21_c7 x1 x3 x4 x5 x6 (zmax 1 (((S 51 x6.toNatClampNeg) - 4) + 1)) u8 S)), (K112_7_2_21_c8 x1 x3 x4 x5 x6 (zmax 1 (((S 51 x6.toNatClampNeg) - 4) + 1)) (u8 : Option zV)  S)], [], (K112_7_2_21_S x1 x3 x4 x5 x6 (zmax 1 (((S 51 x6.toNatClampNeg) - 4) + 1)) u8 S)))) := zr_1_6 i112_7 (zr_0 i112_8 kc_216 (zr_19_3 i112_9 (fun h979 => zt_rfl) (fun h980 => zr_0 i112_10 kc_1 (zr_2_0 i112_11 (zr_6r i112_12 fl_7_0 (zr_1_6 i112_13 (zr_8 i112_14 ar_51 (g0 h980) rfl rfl (zr_0 i112_15 kc_4 (zr_13_1 i112_16 (zr_0 i112_17 kc_1 (zr_13_0 i112_18 (zr_23 i112_19 rfl (zr_3_7 i112_20 (zt_trans (L112_7_2_21 x1 x3 x4 x5 x6 (zmax 1 (((S 51 x6.toNatClampNeg) - 4) + 1)) (u8 : Option zV)  S  (g0 h980) (g1 h980)) (zr_5_6 i112_67 kc_1 (zr_17 i112_68 (zt_rfl)))))))))))))))))
set_option maxRecDepth 100000 in
theorem w_K112_7_2_21_S_51 (x1 x3 x4 x5 x6 x7 : Int32) (u8 : Option zV) (S : zS) : K112_7_2_21_S x1 x3 x4 x5 x6 x7 u8 S 51 = S 51 := zwl_inv (I := fun (b : Int32 × Int32 × Option zV × zS) => b.2.2.2 51 = S 51) rfl (fun b _ hb => ((show (if ((b.2.2.2 54 ((x6 * 4) + (F323 b.2.1 4 b.2.2.2)).toNatClampNeg) = 2) then b.2.2.2 else (if (x4 ≤ (b.2.2.2 53 ((x6 * 4) + (F323 b.2.1 4 b.2.2.2)).toNatClampNeg)) then b.2.2.2 else (if ((b.2.2.2 53 ((x6 * 4) + (F323 b.2.1 4 b.2.2.2)).toNatClampNeg) < (b.2.2.2 2 3)) then b.2.2.2 else (z_up (G41 x3 b.2.2.2) 53 ((x6 * 4) + (F323 b.2.1 4 b.2.2.2)).toNatClampNeg (F41 x3 b.2.2.2))))) 51 = b.2.2.2 51 from (zite_k rfl (zite_k rfl (zite_k rfl ((zupc rfl).trans (w_G41_51 _ _))))))).trans hb)
def k112_7_2_7 (x1 x3 x4 : Int32) (j : Nat) (a : Int32 × Option zV × Option zV × zS) : Int32 × Option zV × Option zV × zS := ((K112_7_2_21_c5 x1 x3 x4 a.1 (Int32.ofNat j) (zmax 1 (((a.2.2.2 51 j) - 4) + 1)) a.2.2.1 a.2.2.2), (some (.inl (K112_7_2_21_c7 x1 x3 x4 a.1 (Int32.ofNat j) (zmax 1 (((a.2.2.2 51 j) - 4) + 1)) a.2.2.1 a.2.2.2))), (K112_7_2_21_c8 x1 x3 x4 a.1 (Int32.ofNat j) (zmax 1 (((a.2.2.2 51 j) - 4) + 1)) a.2.2.1 a.2.2.2), (K112_7_2_21_S x1 x3 x4 a.1 (Int32.ofNat j) (zmax 1 (((a.2.2.2 51 j) - 4) + 1)) a.2.2.1 a.2.2.2))
set_option maxRecDepth 100000 in
theorem l112_7_2_7 {L : Nat} (x1 x3 x4 : Int32) (i0 n : Nat) (a : Int32 × Option zV × Option zV × zS) (hn : i0 + n < 2147483648) (hc0 : ∀ j, j < n → ¬ (216 ≤ (Int32.ofNat (i0 + j)))) (g0 : ∀ j, j < n → (¬ (216 ≤ (Int32.ofNat (i0 + j)))) → zx 216 (Int32.ofNat (i0 + j))) (g1 : ∀ j, j < n → (¬ (216 ≤ (Int32.ofNat (i0 + j)))) → zrw ((zfold (k112_7_2_7 x1 x3 x4 ) i0 j a).2.2.2 51 (i0 + j)) (zmax 1 ((((zfold (k112_7_2_7 x1 x3 x4 ) i0 j a).2.2.2 51 (i0 + j)) - 4) + 1))) : zt L 112 7 [some (.inr (.inr 7)), some (.inl x1), some (.inr (.inr 2)), some (.inl x3), some (.inl x4), some (.inl a.1), some (.inl (Int32.ofNat i0)), a.2.1, a.2.2.1] [] a.2.2.2 (.inl (7, [some (.inr (.inr 7)), some (.inl x1), some (.inr (.inr 2)), some (.inl x3), some (.inl x4), some (.inl (zfold (k112_7_2_7 x1 x3 x4 ) i0 n a).1), some (.inl (Int32.ofNat (i0 + n))), (zfold (k112_7_2_7 x1 x3 x4 ) i0 n a).2.1, (zfold (k112_7_2_7 x1 x3 x4 ) i0 n a).2.2.1], [], (zfold (k112_7_2_7 x1 x3 x4 ) i0 n a).2.2.2)) := by
  induction n with
  | zero => exact zt_rfl
  | succ n ih =>
    have e1 := zk_ix (i0 + n) (by omega)
    have e2 := zk_add (i0 + n)
    refine zt_trans (ih (by omega) (fun j hj => hc0 j (by omega)) (fun j hj => g0 j (by omega)) (fun j hj => g1 j (by omega))) ?_
    refine zt_cast (s112_7_2_7 x1 x3 x4 (zfold (k112_7_2_7 x1 x3 x4 ) i0 n a).1 (Int32.ofNat (i0 + n)) (zfold (k112_7_2_7 x1 x3 x4 ) i0 n a).2.1 (zfold (k112_7_2_7 x1 x3 x4 ) i0 n a).2.2.1 (zfold (k112_7_2_7 x1 x3 x4 ) i0 n a).2.2.2 (by have hg := g0 n (by omega); first | exact hg | (simp only [e1]; exact hg)) (by have hg := g1 n (by omega); first | exact hg | (simp only [e1]; exact hg))) ?_
    rw [if_neg (show ¬ (216 ≤ (Int32.ofNat (i0 + n))) from (by have hg := hc0 n (by omega); first | exact hg | (simp only [e1]; exact hg)))]
    simp only [zfold, k112_7_2_7, e1, e2, ← Nat.add_assoc]
def K112_7_2_7 (x1 x3 x4 x5 : Int32) (u7 u8 : Option zV) (i0 : Nat) (S : zS) : Int32 × Option zV × Option zV × zS := zfold (k112_7_2_7 x1 x3 x4 ) i0 (216 - i0) (x5, u7, u8, S)
def K112_7_2_7_c5 (x1 x3 x4 x5 : Int32) (u7 u8 : Option zV) (i0 : Nat) (S : zS) : Int32 := (K112_7_2_7 x1 x3 x4 x5 u7 u8 i0 S).1
def K112_7_2_7_c7 (x1 x3 x4 x5 : Int32) (u7 u8 : Option zV) (i0 : Nat) (S : zS) : Option zV := (K112_7_2_7 x1 x3 x4 x5 u7 u8 i0 S).2.1
def K112_7_2_7_c8 (x1 x3 x4 x5 : Int32) (u7 u8 : Option zV) (i0 : Nat) (S : zS) : Option zV := (K112_7_2_7 x1 x3 x4 x5 u7 u8 i0 S).2.2.1
def K112_7_2_7_S (x1 x3 x4 x5 : Int32) (u7 u8 : Option zV) (i0 : Nat) (S : zS) : zS := (K112_7_2_7 x1 x3 x4 x5 u7 u8 i0 S).2.2.2
set_option maxRecDepth 100000 in
theorem L112_7_2_7 {L : Nat} (x1 x3 x4 x5 : Int32) (u7 u8 : Option zV) (i0 : Nat) (S : zS) (hi : i0 ≤ 10000) (hLa : zLa (S 51)) : zt L 112 7 [some (.inr (.inr 7)), some (.inl x1), some (.inr (.inr 2)), some (.inl x3), some (.inl x4), some (.inl x5), some (.inl (Int32.ofNat i0)), u7, u8] [] S (.inl (69, [some (.inr (.inr 7)), some (.inl x1), some (.inr (.inr 2)), some (.inl x3), some (.inl x4), some (.inl (K112_7_2_7_c5 x1 x3 x4 x5 u7 u8 i0 S)), some (.inl (Int32.ofNat (i0 + (216 - i0)))), (K112_7_2_7_c7 x1 x3 x4 x5 u7 u8 i0 S), (K112_7_2_7_c8 x1 x3 x4 x5 u7 u8 i0 S)], [], (K112_7_2_7_S x1 x3 x4 x5 u7 u8 i0 S))) := by
  have hk51 : ∀ n, (zfold (k112_7_2_7 x1 x3 x4 ) i0 n (x5, u7, u8, S)).2.2.2 51 = S 51 := fun n => zfold_keep (f := (k112_7_2_7 x1 x3 x4 )) (fun (b : Int32 × Option zV × Option zV × zS) => b.2.2.2 51) (fun j b => by simp only [k112_7_2_7]; exact (w_K112_7_2_21_S_51 _ _ _ _ _ _ _ _)) n (x5, u7, u8, S)
  have hend : 216 ≤ Int32.ofNat (i0 + (216 - i0)) := by exact zc_le_end (show zn 216 216 from by unfold zn; decide) (by omega)
  refine zt_trans (l112_7_2_7 x1 x3 x4   i0 (216 - i0) (x5, u7, u8, S) (by omega) (fun j hj => by exact zc_le (show zn 216 216 from by unfold zn; decide) hj (by omega)) (fun j hj _ => by exact zx_of (by omega) (by omega)) (fun j hj _ => by rw [hk51 j]; exact zrw_2 (hLa _ (by omega)))) ?_
  exact zt_cast (s112_7_2_7 x1 x3 x4 (zfold (k112_7_2_7 x1 x3 x4 ) i0 (216 - i0) (x5, u7, u8, S)).1 (Int32.ofNat (i0 + (216 - i0))) (zfold (k112_7_2_7 x1 x3 x4 ) i0 (216 - i0) (x5, u7, u8, S)).2.1 (zfold (k112_7_2_7 x1 x3 x4 ) i0 (216 - i0) (x5, u7, u8, S)).2.2.1 (zfold (k112_7_2_7 x1 x3 x4 ) i0 (216 - i0) (x5, u7, u8, S)).2.2.2 (fun h9 => absurd hend h9) (fun h9 => absurd hend h9)) (if_pos hend)
set_option maxRecDepth 100000 in
theorem f112_7_2 {L : Nat} (a b : Int32) (S : zS) (g0 : zLa (S 51)) : zf L 112 [.inr (.inr 7), .inl a, .inr (.inr 2), .inl b] S (.inl (some (.inl (K112_7_2_7_c5 a b (S 2 0) 0 (none : Option zV) (none : Option zV) 0 S))), (K112_7_2_7_S a b (S 2 0) 0 (none : Option zV) (none : Option zV) 0 S), 0) := zf_of (en_112 _ _ _ _) (zr_2_2 i112_0 (zr_cv (zs_21_0 i112_1 na_37 ob_2 rfl) (f37  S ) (zr_3_4 i112_2 (zr_0 i112_3 kc_0 (zr_3_5 i112_4 (zr_0 i112_5 kc_0 (zr_3_6 i112_6 (zt_trans (L112_7_2_7 a b (S 2 0) 0 (none : Option zV) (none : Option zV) 0 S (by decide) (g0)) (zr_1_5 i112_69 (zr_25 i112_70))))))))))
