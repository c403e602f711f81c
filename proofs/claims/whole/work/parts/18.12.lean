/-! the methods with loops, and what calls them (wip/whole/gen/gen18.py) -/
theorem i234_0 : zi 234 0 1 2 0 0 := by decide +kernel
theorem i234_1 : zi 234 1 2 1 1 0 := by decide +kernel
theorem i234_2 : zi 234 2 3 0 0 1 := by decide +kernel
theorem i234_3 : zi 234 3 4 0 0 50 := by decide +kernel
theorem i234_4 : zi 234 4 5 22 213 0 := by decide +kernel
theorem i234_5 : zi 234 5 6 18 8 1 := by decide +kernel
theorem i234_8 : zi 234 8 9 2 0 0 := by decide +kernel
theorem i234_9 : zi 234 9 10 6 12 2 := by decide +kernel
theorem i234_10 : zi 234 10 11 18 13 0 := by decide +kernel
theorem i234_13 : zi 234 13 14 0 0 2 := by decide +kernel
theorem i234_11 : zi 234 11 12 0 0 0 := by decide +kernel
theorem i234_12 : zi 234 12 13 17 14 0 := by decide +kernel
theorem i234_6 : zi 234 6 7 0 0 1 := by decide +kernel
theorem i234_7 : zi 234 7 8 17 14 0 := by decide +kernel
theorem i234_14 : zi 234 14 15 21 212 12 := by decide +kernel
theorem i234_15 : zi 234 15 16 18 18 1 := by decide +kernel
theorem i234_18 : zi 234 18 19 0 0 0 := by decide +kernel
theorem i234_19 : zi 234 19 20 3 2 0 := by decide +kernel
theorem i234_20 : zi 234 20 21 2 0 0 := by decide +kernel
theorem i234_21 : zi 234 21 22 6 12 13 := by decide +kernel
theorem i234_22 : zi 234 22 23 3 3 0 := by decide +kernel
theorem i234_23 : zi 234 23 24 0 0 0 := by decide +kernel
theorem i234_24 : zi 234 24 25 3 4 0 := by decide +kernel
theorem i234_16 : zi 234 16 17 0 0 0 := by decide +kernel
theorem i234_17 : zi 234 17 18 25 0 0 := by decide +kernel
theorem i234_25 : zi 234 25 26 1 4 0 := by decide +kernel
theorem i234_26 : zi 234 26 27 0 0 216 := by decide +kernel
theorem i234_27 : zi 234 27 28 19 91 3 := by decide +kernel
theorem i234_28 : zi 234 28 29 2 0 0 := by decide +kernel
theorem i234_29 : zi 234 29 30 6 12 23 := by decide +kernel
theorem i234_30 : zi 234 30 31 1 4 0 := by decide +kernel
theorem i234_31 : zi 234 31 32 8 0 0 := by decide +kernel
theorem i234_32 : zi 234 32 33 0 0 4 := by decide +kernel
theorem i234_33 : zi 234 33 34 13 1 0 := by decide +kernel
theorem i234_34 : zi 234 34 35 0 0 1 := by decide +kernel
theorem i234_35 : zi 234 35 36 13 0 0 := by decide +kernel
theorem i234_36 : zi 234 36 37 3 5 0 := by decide +kernel
theorem i234_91 : zi 234 91 92 1 2 0 := by decide +kernel
theorem i234_92 : zi 234 92 93 25 0 0 := by decide +kernel
theorem i234_37 : zi 234 37 38 1 5 0 := by decide +kernel
theorem i234_38 : zi 234 38 39 2 0 0 := by decide +kernel
theorem i234_39 : zi 234 39 40 6 12 23 := by decide +kernel
theorem i234_40 : zi 234 40 41 1 4 0 := by decide +kernel
theorem i234_41 : zi 234 41 42 8 0 0 := by decide +kernel
theorem i234_42 : zi 234 42 43 19 89 4 := by decide +kernel
theorem i234_43 : zi 234 43 44 1 2 0 := by decide +kernel
theorem i234_44 : zi 234 44 45 1 1 0 := by decide +kernel
theorem i234_45 : zi 234 45 46 19 89 3 := by decide +kernel
theorem i234_46 : zi 234 46 47 0 0 4 := by decide +kernel
theorem i234_47 : zi 234 47 48 1 4 0 := by decide +kernel
theorem i234_48 : zi 234 48 49 13 2 0 := by decide +kernel
theorem i234_49 : zi 234 49 50 1 5 0 := by decide +kernel
theorem i234_50 : zi 234 50 51 0 0 4 := by decide +kernel
theorem i234_51 : zi 234 51 52 13 0 0 := by decide +kernel
theorem i234_52 : zi 234 52 53 0 0 4 := by decide +kernel
theorem i234_53 : zi 234 53 54 13 4 0 := by decide +kernel
theorem i234_54 : zi 234 54 55 13 0 0 := by decide +kernel
theorem i234_55 : zi 234 55 56 3 6 0 := by decide +kernel
theorem i234_56 : zi 234 56 57 2 0 0 := by decide +kernel
theorem i234_57 : zi 234 57 58 1 4 0 := by decide +kernel
theorem i234_58 : zi 234 58 59 1 5 0 := by decide +kernel
theorem i234_59 : zi 234 59 60 21 233 12 := by decide +kernel
theorem i234_60 : zi 234 60 61 18 87 0 := by decide +kernel
theorem i234_61 : zi 234 61 62 2 0 0 := by decide +kernel
theorem i234_62 : zi 234 62 63 6 12 26 := by decide +kernel
theorem i234_63 : zi 234 63 64 1 6 0 := by decide +kernel
theorem i234_64 : zi 234 64 65 8 0 0 := by decide +kernel
theorem i234_65 : zi 234 65 66 0 0 2 := by decide +kernel
theorem i234_66 : zi 234 66 67 19 87 0 := by decide +kernel
theorem i234_67 : zi 234 67 68 2 0 0 := by decide +kernel
theorem i234_68 : zi 234 68 69 6 12 25 := by decide +kernel
theorem i234_69 : zi 234 69 70 1 6 0 := by decide +kernel
theorem i234_70 : zi 234 70 71 8 0 0 := by decide +kernel
theorem i234_71 : zi 234 71 72 1 3 0 := by decide +kernel
theorem i234_72 : zi 234 72 73 19 87 3 := by decide +kernel
theorem i234_73 : zi 234 73 74 2 0 0 := by decide +kernel
theorem i234_74 : zi 234 74 75 6 12 25 := by decide +kernel
theorem i234_75 : zi 234 75 76 1 6 0 := by decide +kernel
theorem i234_76 : zi 234 76 77 8 0 0 := by decide +kernel
theorem i234_77 : zi 234 77 78 2 0 0 := by decide +kernel
theorem i234_78 : zi 234 78 79 6 12 18 := by decide +kernel
theorem i234_79 : zi 234 79 80 19 87 2 := by decide +kernel
theorem i234_80 : zi 234 80 81 2 0 0 := by decide +kernel
theorem i234_81 : zi 234 81 82 6 12 25 := by decide +kernel
theorem i234_82 : zi 234 82 83 1 6 0 := by decide +kernel
theorem i234_83 : zi 234 83 84 2 0 0 := by decide +kernel
theorem i234_84 : zi 234 84 85 21 229 12 := by decide +kernel
theorem i234_85 : zi 234 85 86 10 0 0 := by decide +kernel
theorem i234_86 : zi 234 86 87 5 2 1 := by decide +kernel
theorem i234_87 : zi 234 87 88 5 5 1 := by decide +kernel
theorem i234_88 : zi 234 88 89 17 37 0 := by decide +kernel
theorem i234_89 : zi 234 89 90 5 4 1 := by decide +kernel
theorem i234_90 : zi 234 90 91 17 25 0 := by decide +kernel
theorem ml_234 : z_ml 234 = 7 := by decide +kernel
theorem en_234 : ∀ (v0 v1 : zV), z_ent 234 [v0, v1] = [some v0, some v1, none, none, none, none, none] := fun v0 v1 => by unfold z_ent; rw [ml_234]; rfl
set_option maxRecDepth 100000 in
theorem s234_37 {L : Nat} (x1 x2 x3 x4 x5 : Int32) (u6 : Option zV) (S : zS) (g0 : zx 216 x4) (g1 : (¬ ((S 88 x4.toNatClampNeg) < x5)) → (¬ (x1 ≤ x2)) → ((¬ (x5 < 1)) ∧ ((¬ ((S 88 x4.toNatClampNeg) < x5)) ∧ (¬ (x5 ≤ ((S 88 x4.toNatClampNeg) - 4))))) → zx 864 ((4 * x4) + (zrem (x5 + 4) 4))) : zt L 234 37 [some (.inr (.inr 13)), some (.inl x1), some (.inl x2), some (.inl x3), some (.inl x4), some (.inl x5), u6] [] S (if ((S 88 x4.toNatClampNeg) < x5) then (.inl (89, [some (.inr (.inr 13)), some (.inl x1), some (.inl x2), some (.inl x3), some (.inl x4), some (.inl x5), u6], [], S)) else (if (x1 ≤ x2) then (.inl (89, [some (.inr (.inr 13)), some (.inl x1), some (.inl x2), some (.inl x3), some (.inl x4), some (.inl x5), u6], [], S)) else (.inl (37, [some (.inr (.inr 13)), some (.inl x1), some (.inl (if ((¬ (x5 < 1)) ∧ ((¬ ((S 88 x4.toNatClampNeg) < x5)) ∧ (¬ (x5 ≤ ((S 88 x4.toNatClampNeg) - 4))))) then ((if ((S 91 ((4 * x4) + (zrem (x5 + 4) 4)).toNatClampNeg) = 2) then (x2 : Int32) else (if (x3 ≤ (S 90 ((4 * x4) + (zrem (x5 + 4) 4)).toNatClampNeg)) then (x2 : Int32) else (if ((S 90 ((4 * x4) + (zrem (x5 + 4) 4)).toNatClampNeg) < (S 13 18)) then (x2 : Int32) else (x2 + 1)))) : Int32) else x2)), some (.inl x3), some (.inl x4), some (.inl (x5 + 1)), some (.inl ((4 * x4) + (zrem (x5 + 4) 4)))], [], (if ((¬ (x5 < 1)) ∧ ((¬ ((S 88 x4.toNatClampNeg) < x5)) ∧ (¬ (x5 ≤ ((S 88 x4.toNatClampNeg) - 4))))) then (if ((S 91 ((4 * x4) + (zrem (x5 + 4) 4)).toNatClampNeg) = 2) then S else (if (x3 ≤ (S 90 ((4 * x4) + (zrem (x5 + 4) 4)).toNatClampNeg)) then S else (if ((S 90 ((4 * x4) + (zrem (x5 + 4) 4)).toNatClampNeg) < (S 13 18)) then S else (z_up (G229 S) 90 ((4 * x4) + (zrem (x5 + 4) 4)).toNatClampNeg (F229 S))))) else S))))) := zr_1_5 i234_37 (zr_2_0 i234_38 (zr_6r i234_39 fl_13_23 (zr_1_4 i234_40 (zr_8 i234_41 ar_88 (g0) rfl rfl (zr_19_4 i234_42 (fun h2180 => zt_rfl) (fun h2181 => zr_1_2 i234_43 (zr_1_1 i234_44 (zr_19_3 i234_45 (fun h2182 => zt_rfl) (fun h2183 => zr_0 i234_46 kc_4 (zr_1_4 i234_47 (zr_13_2 i234_48 (zr_1_5 i234_49 (zr_0 i234_50 kc_4 (zr_13_0 i234_51 (zr_0 i234_52 kc_4 (zr_13_4 i234_53 nz_4 (zr_13_0 i234_54 (zr_3_6 i234_55 (zr_2_0 i234_56 (zr_1_4 i234_57 (zr_1_5 i234_58 (zr_cv (zs_21_2 i234_59 na_233 ob_13 rfl) (f233 x4 x5 S (fun h2184 => (g0))) (zt_trans (zt_cast (zr_18b_0 i234_60 (fun h2185 => zr_2_0 i234_61 (zr_6r i234_62 fl_13_26 (zr_1_6 i234_63 (zr_8 i234_64 ar_91 (g1 h2181 h2183 h2185) rfl rfl (zr_0 i234_65 kc_2 (zt_cast (zr_19_0 i234_66 (fun h2187 => zt_rfl) (fun h2188 => zr_2_0 i234_67 (zr_6r i234_68 fl_13_25 (zr_1_6 i234_69 (zr_8 i234_70 ar_90 (g1 h2181 h2183 h2185) rfl rfl (zr_1_3 i234_71 (zt_cast (zr_19_3 i234_72 (fun h2189 => zt_rfl) (fun h2190 => zr_2_0 i234_73 (zr_6r i234_74 fl_13_25 (zr_1_6 i234_75 (zr_8 i234_76 ar_90 (g1 h2181 h2183 h2185) rfl rfl (zr_2_0 i234_77 (zr_6 i234_78 fl_13_18 rfl (zt_cast (zr_19_2 i234_79 (fun h2191 => zt_rfl) (fun h2192 => zr_2_0 i234_80 (zr_6r i234_81 fl_13_25 (zr_1_6 i234_82 (zr_2_0 i234_83 (zr_cv (zs_21_0 i234_84 na_229 ob_13 rfl) (f229  S ) (zr_10 i234_85 ar_90 (g1 h2181 h2183 h2185) rfl (zr_5_2 i234_86 kc_1 (zt_rfl))))))))) (zm_c (zl_c zz_s (zl_c zz_s (zl_c (zl_v zz_e) zz_s))) zz_s zz_e))))))))) (zm_c (zl_c zz_s (zl_c zz_s (zl_c (zl_v zz_e) zz_s))) zz_s zz_e)))))))) (zm_c (zl_c zz_s (zl_c zz_s (zl_c (zl_v zz_e) zz_s))) zz_s zz_e))))))) (fun h2186 => zt_rfl)) (zm_c (zl_c zz_s (zl_c zz_s (zl_c (zl_v zz_e) zz_s))) zz_s zz_e)) (zr_5_5 i234_87 kc_1 (zr_17 i234_88 (zt_rfl))))))))))))))))))))))))))
set_option maxRecDepth 100000 in
theorem w_G229_88 (S : zS) : G229 S 88 = S 88 := (show (z_up (if ((S 13 16) ≤ (S 13 14)) then (z_up (z_up (z_up S 13 13 ((S 13 13) + 1)) 13 14 0) 13 15 (S 13 1)) else (if (((S 13 1) - (S 13 15)) < (S 13 17)) then S else (z_up (z_up (z_up S 13 13 ((S 13 13) + 1)) 13 14 0) 13 15 (S 13 1)))) 13 14 (((if ((S 13 16) ≤ (S 13 14)) then (z_up (z_up (z_up S 13 13 ((S 13 13) + 1)) 13 14 0) 13 15 (S 13 1)) else (if (((S 13 1) - (S 13 15)) < (S 13 17)) then S else (z_up (z_up (z_up S 13 13 ((S 13 13) + 1)) 13 14 0) 13 15 (S 13 1)))) 13 14) + 1)) 88 = S 88 from ((zupc rfl).trans (zite_k ((zupc rfl).trans ((zupc rfl).trans (zupc rfl))) (zite_k rfl ((zupc rfl).trans ((zupc rfl).trans (zupc rfl)))))))
def c234_37 (x1 x3 x4 : Int32) (a : Int32 × Int32 × Option zV × zS) : Bool := decide ((a.2.2.2 88 x4.toNatClampNeg) < a.2.1) || decide (x1 ≤ a.1)
def kw234_37 (x1 x3 x4 : Int32) (a : Int32 × Int32 × Option zV × zS) : Int32 × Int32 × Option zV × zS := ((if ((¬ (a.2.1 < 1)) ∧ ((¬ ((a.2.2.2 88 x4.toNatClampNeg) < a.2.1)) ∧ (¬ (a.2.1 ≤ ((a.2.2.2 88 x4.toNatClampNeg) - 4))))) then ((if ((a.2.2.2 91 ((4 * x4) + (zrem (a.2.1 + 4) 4)).toNatClampNeg) = 2) then (a.1 : Int32) else (if (x3 ≤ (a.2.2.2 90 ((4 * x4) + (zrem (a.2.1 + 4) 4)).toNatClampNeg)) then (a.1 : Int32) else (if ((a.2.2.2 90 ((4 * x4) + (zrem (a.2.1 + 4) 4)).toNatClampNeg) < (a.2.2.2 13 18)) then (a.1 : Int32) else (a.1 + 1)))) : Int32) else a.1), (a.2.1 + 1), (some (.inl ((4 * x4) + (zrem (a.2.1 + 4) 4)))), (if ((¬ (a.2.1 < 1)) ∧ ((¬ ((a.2.2.2 88 x4.toNatClampNeg) < a.2.1)) ∧ (¬ (a.2.1 ≤ ((a.2.2.2 88 x4.toNatClampNeg) - 4))))) then (if ((a.2.2.2 91 ((4 * x4) + (zrem (a.2.1 + 4) 4)).toNatClampNeg) = 2) then a.2.2.2 else (if (x3 ≤ (a.2.2.2 90 ((4 * x4) + (zrem (a.2.1 + 4) 4)).toNatClampNeg)) then a.2.2.2 else (if ((a.2.2.2 90 ((4 * x4) + (zrem (a.2.1 + 4) 4)).toNatClampNeg) < (a.2.2.2 13 18)) then a.2.2.2 else (z_up (G229 a.2.2.2) 90 ((4 * x4) + (zrem (a.2.1 + 4) 4)).toNatClampNeg (F229 a.2.2.2))))) else a.2.2.2))
set_option maxRecDepth 100000 in
theorem c234_37_n (x1 x3 x4 : Int32) (a : Int32 × Int32 × Option zV × zS) (h : ¬ c234_37 x1 x3 x4 a = true) : ¬ ((a.2.2.2 88 x4.toNatClampNeg) < a.2.1) ∧ ¬ (x1 ≤ a.1) := by
  unfold c234_37 at h
  simpa only [Bool.or_eq_true, decide_eq_true_eq, not_or] using h
set_option maxRecDepth 100000 in
theorem c234_37_p (x1 x3 x4 : Int32) (a : Int32 × Int32 × Option zV × zS) (h : c234_37 x1 x3 x4 a = true) : ((a.2.2.2 88 x4.toNatClampNeg) < a.2.1) ∨ (x1 ≤ a.1) := by
  unfold c234_37 at h
  simpa only [Bool.or_eq_true, decide_eq_true_eq] using h
set_option maxRecDepth 100000 in
theorem c234_37_q (x1 x3 x4 : Int32) (a : Int32 × Int32 × Option zV × zS) (h : ((a.2.2.2 88 x4.toNatClampNeg) < a.2.1) ∨ (x1 ≤ a.1)) : c234_37 x1 x3 x4 a = true := by
  unfold c234_37
  simpa only [Bool.or_eq_true, decide_eq_true_eq] using h
set_option maxRecDepth 100000 in
theorem lw234_37 {L : Nat} (x1 x3 x4 : Int32) (n : Nat) (a : Int32 × Int32 × Option zV × zS) (g0 : ∀ j, j < n → zx 216 x4) (g1 : ∀ j, j < n → (¬ (((zwl (fun a => c234_37 x1 x3 x4 a = true) (kw234_37 x1 x3 x4) j a).2.2.2 88 x4.toNatClampNeg) < (zwl (fun a => c234_37 x1 x3 x4 a = true) (kw234_37 x1 x3 x4) j a).2.1)) → (¬ (x1 ≤ (zwl (fun a => c234_37 x1 x3 x4 a = true) (kw234_37 x1 x3 x4) j a).1)) → ((¬ ((zwl (fun a => c234_37 x1 x3 x4 a = true) (kw234_37 x1 x3 x4) j a).2.1 < 1)) ∧ ((¬ (((zwl (fun a => c234_37 x1 x3 x4 a = true) (kw234_37 x1 x3 x4) j a).2.2.2 88 x4.toNatClampNeg) < (zwl (fun a => c234_37 x1 x3 x4 a = true) (kw234_37 x1 x3 x4) j a).2.1)) ∧ (¬ ((zwl (fun a => c234_37 x1 x3 x4 a = true) (kw234_37 x1 x3 x4) j a).2.1 ≤ (((zwl (fun a => c234_37 x1 x3 x4 a = true) (kw234_37 x1 x3 x4) j a).2.2.2 88 x4.toNatClampNeg) - 4))))) → zx 864 ((4 * x4) + (zrem ((zwl (fun a => c234_37 x1 x3 x4 a = true) (kw234_37 x1 x3 x4) j a).2.1 + 4) 4))) : zt L 234 37 [some (.inr (.inr 13)), some (.inl x1), some (.inl a.1), some (.inl x3), some (.inl x4), some (.inl a.2.1), a.2.2.1] [] a.2.2.2 (.inl (37, [some (.inr (.inr 13)), some (.inl x1), some (.inl (zwl (fun a => c234_37 x1 x3 x4 a = true) (kw234_37 x1 x3 x4) n a).1), some (.inl x3), some (.inl x4), some (.inl (zwl (fun a => c234_37 x1 x3 x4 a = true) (kw234_37 x1 x3 x4) n a).2.1), (zwl (fun a => c234_37 x1 x3 x4 a = true) (kw234_37 x1 x3 x4) n a).2.2.1], [], (zwl (fun a => c234_37 x1 x3 x4 a = true) (kw234_37 x1 x3 x4) n a).2.2.2)) := by
  refine zwl_run (c := fun a => c234_37 x1 x3 x4 a = true) (f := kw234_37 x1 x3 x4) (lv := fun a => [some (.inr (.inr 13)), some (.inl x1), some (.inl a.1), some (.inl x3), some (.inl x4), some (.inl a.2.1), a.2.2.1]) (S := fun a => a.2.2.2) (a := a) (n := n) (fun j hj hc => ?_)
  refine zt_cast (s234_37 x1 (zwl (fun a => c234_37 x1 x3 x4 a = true) (kw234_37 x1 x3 x4) j a).1 x3 x4 (zwl (fun a => c234_37 x1 x3 x4 a = true) (kw234_37 x1 x3 x4) j a).2.1 (zwl (fun a => c234_37 x1 x3 x4 a = true) (kw234_37 x1 x3 x4) j a).2.2.1 (zwl (fun a => c234_37 x1 x3 x4 a = true) (kw234_37 x1 x3 x4) j a).2.2.2 (g0 j hj) (g1 j hj)) ?_
  have h9 := c234_37_n x1 x3 x4 _ hc
  rw [if_neg h9.1, if_neg h9.2]
  rfl
def K234_37 (x1 x2 x3 x4 x5 : Int32) (u6 : Option zV) (S : zS) : Int32 × Int32 × Option zV × zS := (zwl (fun a => c234_37 x1 x3 x4 a = true) (kw234_37 x1 x3 x4) (4 + (x1 - x1).toNatClampNeg) (x2, x5, u6, S))
def K234_37_c2 (x1 x2 x3 x4 x5 : Int32) (u6 : Option zV) (S : zS) : Int32 := (K234_37 x1 x2 x3 x4 x5 u6 S).1
def K234_37_c5 (x1 x2 x3 x4 x5 : Int32) (u6 : Option zV) (S : zS) : Int32 := (K234_37 x1 x2 x3 x4 x5 u6 S).2.1
def K234_37_c6 (x1 x2 x3 x4 x5 : Int32) (u6 : Option zV) (S : zS) : Option zV := (K234_37 x1 x2 x3 x4 x5 u6 S).2.2.1
def K234_37_S (x1 x2 x3 x4 x5 : Int32) (u6 : Option zV) (S : zS) : zS := (K234_37 x1 x2 x3 x4 x5 u6 S).2.2.2
set_option maxRecDepth 100000 in
theorem Hk234_37 (x1 x2 x3 x4 x5 : Int32) (u6 : Option zV) (S : zS) (n : Nat) : (zwl (fun a => c234_37 x1 x3 x4 a = true) (kw234_37 x1 x3 x4) n (x2, x5, u6, S)).2.2.2 88 = S 88 := zwl_inv (I := fun (b : Int32 × Int32 × Option zV × zS) => b.2.2.2 88 = S 88) rfl (fun b _ hb => ((show (if ((¬ (b.2.1 < 1)) ∧ ((¬ ((b.2.2.2 88 x4.toNatClampNeg) < b.2.1)) ∧ (¬ (b.2.1 ≤ ((b.2.2.2 88 x4.toNatClampNeg) - 4))))) then (if ((b.2.2.2 91 ((4 * x4) + (zrem (b.2.1 + 4) 4)).toNatClampNeg) = 2) then b.2.2.2 else (if (x3 ≤ (b.2.2.2 90 ((4 * x4) + (zrem (b.2.1 + 4) 4)).toNatClampNeg)) then b.2.2.2 else (if ((b.2.2.2 90 ((4 * x4) + (zrem (b.2.1 + 4) 4)).toNatClampNeg) < (b.2.2.2 13 18)) then b.2.2.2 else (z_up (G229 b.2.2.2) 90 ((4 * x4) + (zrem (b.2.1 + 4) 4)).toNatClampNeg (F229 b.2.2.2))))) else b.2.2.2) 88 = b.2.2.2 88 from (zite_k (zite_k rfl (zite_k rfl (zite_k rfl ((zupc rfl).trans (w_G229_88 _))))) rfl))).trans hb)
set_option maxRecDepth 100000 in
theorem Hw234_37 (x1 x2 x3 x4 x5 : Int32) (u6 : Option zV) (a : Int32 × Int32 × Option zV × zS) : (kw234_37 x1 x3 x4 a).2.1 = a.2.1 + 1 := rfl
set_option maxRecDepth 100000 in
theorem HI234_37 (x1 x2 x3 x4 x5 : Int32) (u6 : Option zV) (S : zS) (hl1 : -100 ≤ x5.toInt) (hl2 : x5.toInt < 100000) : ∀ n, n ≤ 4 → (c234_37 x1 x3 x4 (zwl (fun a => c234_37 x1 x3 x4 a = true) (kw234_37 x1 x3 x4) n (x2, x5, u6, S)) = true ∨ ((zwl (fun a => c234_37 x1 x3 x4 a = true) (kw234_37 x1 x3 x4) n (x2, x5, u6, S)).2.1).toInt = x5.toInt + n) ∧ x5.toInt ≤ ((zwl (fun a => c234_37 x1 x3 x4 a = true) (kw234_37 x1 x3 x4) n (x2, x5, u6, S)).2.1).toInt ∧ ((zwl (fun a => c234_37 x1 x3 x4 a = true) (kw234_37 x1 x3 x4) n (x2, x5, u6, S)).2.1).toInt ≤ x5.toInt + n := by
  intro n
  induction n with
  | zero => intro _; exact ⟨Or.inr (show x5.toInt = x5.toInt + ((0 : Nat) : Int) by omega), Int.le_refl _, (show x5.toInt ≤ x5.toInt + ((0 : Nat) : Int) by omega)⟩
  | succ n ih =>
    intro hn
    have h := ih (by omega)
    simp only [zwl]
    generalize (zwl (fun a => c234_37 x1 x3 x4 a = true) (kw234_37 x1 x3 x4) n (x2, x5, u6, S)) = w at h ⊢
    obtain ⟨h1, h2, h3⟩ := h
    by_cases hc : c234_37 x1 x3 x4 w = true
    · rw [if_pos hc]; exact ⟨Or.inl hc, h2, by omega⟩
    · rw [if_neg hc, Hw234_37 x1 x2 x3 x4 x5 u6]
      have h4 := h1.resolve_left hc
      have e1 : (w.2.1 + 1).toInt = (w.2.1).toInt + 1 := zk_tadd (by rw [zk_1]; omega) (by rw [zk_1]; omega)
      rw [e1]
      exact ⟨Or.inr (by omega), by omega, by omega⟩
set_option maxRecDepth 100000 in
theorem He234_37 (x1 x2 x3 x4 x5 : Int32) (u6 : Option zV) (S : zS) (hl1 : -100 ≤ x5.toInt) (hl2 : x5.toInt < 100000) (hl3 : (S 88 x4.toNatClampNeg).toInt < x5.toInt + 4) : c234_37 x1 x3 x4 (zwl (fun a => c234_37 x1 x3 x4 a = true) (kw234_37 x1 x3 x4) (4 + (x1 - x1).toNatClampNeg) (x2, x5, u6, S)) = true := by
  have hfu : (4 + (x1 - x1).toNatClampNeg) = 4 := by rw [Int32.sub_self]; rfl
  rw [hfu]
  have hI := HI234_37 x1 x2 x3 x4 x5 u6 S hl1 hl2 4 (Nat.le_refl _)
  have hk := Hk234_37 x1 x2 x3 x4 x5 u6 S 4
  generalize (zwl (fun a => c234_37 x1 x3 x4 a = true) (kw234_37 x1 x3 x4) 4 (x2, x5, u6, S)) = w at hI hk ⊢
  obtain ⟨h1, h2, h3⟩ := hI
  rcases h1 with h1 | h1
  · exact h1
  · refine c234_37_q x1 x3 x4 w (Or.inl ?_)
    rw [hk, zk_lt]
    exact zrw_end h1 hl3
set_option maxRecDepth 100000 in
theorem L234_37 {L : Nat} (x1 x2 x3 x4 x5 : Int32) (u6 : Option zV) (S : zS) (hp : zx 216 x4) (hl : zrw (S 88 x4.toNatClampNeg) x5) : zt L 234 37 [some (.inr (.inr 13)), some (.inl x1), some (.inl x2), some (.inl x3), some (.inl x4), some (.inl x5), u6] [] S (.inl (89, [some (.inr (.inr 13)), some (.inl x1), some (.inl (K234_37_c2 x1 x2 x3 x4 x5 u6 S)), some (.inl x3), some (.inl x4), some (.inl (K234_37_c5 x1 x2 x3 x4 x5 u6 S)), (K234_37_c6 x1 x2 x3 x4 x5 u6 S)], [], (K234_37_S x1 x2 x3 x4 x5 u6 S))) := by
  obtain ⟨hl1, hl2, hl3⟩ := hl
  have hver : ∀ n, n ≤ 4 → ¬ ((zwl (fun a => c234_37 x1 x3 x4 a = true) (kw234_37 x1 x3 x4) n (x2, x5, u6, S)).2.1 < 1) → 0 ≤ ((zwl (fun a => c234_37 x1 x3 x4 a = true) (kw234_37 x1 x3 x4) n (x2, x5, u6, S)).2.1 + 4).toInt := by
    intro n hn h
    have hI := HI234_37 x1 x2 x3 x4 x5 u6 S hl1 hl2 n hn
    generalize (zwl (fun a => c234_37 x1 x3 x4 a = true) (kw234_37 x1 x3 x4) n (x2, x5, u6, S)) = w at h hI ⊢
    rw [zk_lt] at h
    rw [zk_tadd (by rw [zk_4]; omega) (by rw [zk_4]; omega), zk_4]
    have : (1 : Int32).toInt = 1 := rfl
    omega
  have hend := He234_37 x1 x2 x3 x4 x5 u6 S hl1 hl2 hl3
  have hfu : (4 + (x1 - x1).toNatClampNeg) = 4 := by rw [Int32.sub_self]; rfl
  have hrun := lw234_37 (L := L) x1 x3 x4 (4 + (x1 - x1).toNatClampNeg) (x2, x5, u6, S) (fun j hj  => hp) (fun j hj _ _ hv => zx_slot' hp (zn_rem4 (hver j (by rw [hfu] at hj; omega) hv.1)))
  have hst := fun (a : Int32 × Int32 × Option zV × zS) => s234_37 (L := L) x1 a.1 x3 x4 a.2.1 a.2.2.1 a.2.2.2
  refine zt_trans hrun ?_
  have hend2 := c234_37_p x1 x3 x4 _ hend
  show zt L 234 37 [some (.inr (.inr 13)), some (.inl x1), some (.inl (zwl (fun a => c234_37 x1 x3 x4 a = true) (kw234_37 x1 x3 x4) (4 + (x1 - x1).toNatClampNeg) (x2, x5, u6, S)).1), some (.inl x3), some (.inl x4), some (.inl (zwl (fun a => c234_37 x1 x3 x4 a = true) (kw234_37 x1 x3 x4) (4 + (x1 - x1).toNatClampNeg) (x2, x5, u6, S)).2.1), (zwl (fun a => c234_37 x1 x3 x4 a = true) (kw234_37 x1 x3 x4) (4 + (x1 - x1).toNatClampNeg) (x2, x5, u6, S)).2.2.1] [] (zwl (fun a => c234_37 x1 x3 x4 a = true) (kw234_37 x1 x3 x4) (4 + (x1 - x1).toNatClampNeg) (x2, x5, u6, S)).2.2.2 (.inl (89, [some (.inr (.inr 13)), some (.inl x1), some (.inl (zwl (fun a => c234_37 x1 x3 x4 a = true) (kw234_37 x1 x3 x4) (4 + (x1 - x1).toNatClampNeg) (x2, x5, u6, S)).1), some (.inl x3), some (.inl x4), some (.inl (zwl (fun a => c234_37 x1 x3 x4 a = true) (kw234_37 x1 x3 x4) (4 + (x1 - x1).toNatClampNeg) (x2, x5, u6, S)).2.1), (zwl (fun a => c234_37 x1 x3 x4 a = true) (kw234_37 x1 x3 x4) (4 + (x1 - x1).toNatClampNeg) (x2, x5, u6, S)).2.2.1], [], (zwl (fun a => c234_37 x1 x3 x4 a = true) (kw234_37 x1 x3 x4) (4 + (x1 - x1).toNatClampNeg) (x2, x5, u6, S)).2.2.2))
  exact zt_cast (hst (zwl (fun a => c234_37 x1 x3 x4 a = true) (kw234_37 x1 x3 x4) (4 + (x1 - x1).toNatClampNeg) (x2, x5, u6, S)) hp (fun a9 b9 => (hend2.elim a9 b9).elim)) (zte_2 hend2)
set_option maxRecDepth 100000 in
theorem s234_25 {L : Nat} (x1 x2 x3 x4 : Int32) (u5 u6 : Option zV) (S : zS) (g0 : (¬ (216 ≤ x4)) → zx 216 x4) (g1 : (¬ (216 ≤ x4)) → zrw (S 88 x4.toNatClampNeg) (((S 88 x4.toNatClampNeg) - 4) + 1)) : zt L 234 25 [some (.inr (.inr 13)), some (.inl x1), some (.inl x2), some (.inl x3), some (.inl x4), u5, u6] [] S (if (216 ≤ x4) then (.inl (91, [some (.inr (.inr 13)), some (.inl x1), some (.inl x2), some (.inl x3), some (.inl x4), u5, u6], [], S)) else (.inl (25, [some (.inr (.inr 13)), some (.inl x1), some (.inl (K234_37_c2 x1 x2 x3 x4 (((S 88 x4.toNatClampNeg) - 4) + 1) u6 S)), some (.inl x3), some (.inl (x4 + 1)), some (.inl (K234_37_c5 x1 x2 x3 x4 (((S 88 x4.toNatClampNeg) - 4) + 1) u6 S)), (K234_37_c6 x1 x2 x3 x4 (((S 88 x4.toNatClampNeg) - 4) + 1) (u6 : Option zV)  S)], [], (K234_37_S x1 x2 x3 x4 (((S 88 x4.toNatClampNeg) - 4) + 1) u6 S)))) := zr_1_4 i234_25 (zr_0 i234_26 kc_216 (zr_19_3 i234_27 (fun h2193 => zt_rfl) (fun h2194 => zr_2_0 i234_28 (zr_6r i234_29 fl_13_23 (zr_1_4 i234_30 (zr_8 i234_31 ar_88 (g0 h2194) rfl rfl (zr_0 i234_32 kc_4 (zr_13_1 i234_33 (zr_0 i234_34 kc_1 (zr_13_0 i234_35 (zr_3_5 i234_36 (zt_trans (L234_37 x1 x2 x3 x4 (((S 88 x4.toNatClampNeg) - 4) + 1) (u6 : Option zV)  S  (g0 h2194) (g1 h2194)) (zr_5_4 i234_89 kc_1 (zr_17 i234_90 (zt_rfl)))))))))))))))
set_option maxRecDepth 100000 in
theorem w_K234_37_S_88 (x1 x2 x3 x4 x5 : Int32) (u6 : Option zV) (S : zS) : K234_37_S x1 x2 x3 x4 x5 u6 S 88 = S 88 := zwl_inv (I := fun (b : Int32 × Int32 × Option zV × zS) => b.2.2.2 88 = S 88) rfl (fun b _ hb => ((show (if ((¬ (b.2.1 < 1)) ∧ ((¬ ((b.2.2.2 88 x4.toNatClampNeg) < b.2.1)) ∧ (¬ (b.2.1 ≤ ((b.2.2.2 88 x4.toNatClampNeg) - 4))))) then (if ((b.2.2.2 91 ((4 * x4) + (zrem (b.2.1 + 4) 4)).toNatClampNeg) = 2) then b.2.2.2 else (if (x3 ≤ (b.2.2.2 90 ((4 * x4) + (zrem (b.2.1 + 4) 4)).toNatClampNeg)) then b.2.2.2 else (if ((b.2.2.2 90 ((4 * x4) + (zrem (b.2.1 + 4) 4)).toNatClampNeg) < (b.2.2.2 13 18)) then b.2.2.2 else (z_up (G229 b.2.2.2) 90 ((4 * x4) + (zrem (b.2.1 + 4) 4)).toNatClampNeg (F229 b.2.2.2))))) else b.2.2.2) 88 = b.2.2.2 88 from (zite_k (zite_k rfl (zite_k rfl (zite_k rfl ((zupc rfl).trans (w_G229_88 _))))) rfl))).trans hb)
def k234_25 (x1 x3 : Int32) (j : Nat) (a : Int32 × Option zV × Option zV × zS) : Int32 × Option zV × Option zV × zS := ((K234_37_c2 x1 a.1 x3 (Int32.ofNat j) (((a.2.2.2 88 j) - 4) + 1) a.2.2.1 a.2.2.2), (some (.inl (K234_37_c5 x1 a.1 x3 (Int32.ofNat j) (((a.2.2.2 88 j) - 4) + 1) a.2.2.1 a.2.2.2))), (K234_37_c6 x1 a.1 x3 (Int32.ofNat j) (((a.2.2.2 88 j) - 4) + 1) a.2.2.1 a.2.2.2), (K234_37_S x1 a.1 x3 (Int32.ofNat j) (((a.2.2.2 88 j) - 4) + 1) a.2.2.1 a.2.2.2))
set_option maxRecDepth 100000 in
theorem l234_25 {L : Nat} (x1 x3 : Int32) (i0 n : Nat) (a : Int32 × Option zV × Option zV × zS) (hn : i0 + n < 2147483648) (hc0 : ∀ j, j < n → ¬ (216 ≤ (Int32.ofNat (i0 + j)))) (g0 : ∀ j, j < n → (¬ (216 ≤ (Int32.ofNat (i0 + j)))) → zx 216 (Int32.ofNat (i0 + j))) (g1 : ∀ j, j < n → (¬ (216 ≤ (Int32.ofNat (i0 + j)))) → zrw ((zfold (k234_25 x1 x3 ) i0 j a).2.2.2 88 (i0 + j)) ((((zfold (k234_25 x1 x3 ) i0 j a).2.2.2 88 (i0 + j)) - 4) + 1)) : zt L 234 25 [some (.inr (.inr 13)), some (.inl x1), some (.inl a.1), some (.inl x3), some (.inl (Int32.ofNat i0)), a.2.1, a.2.2.1] [] a.2.2.2 (.inl (25, [some (.inr (.inr 13)), some (.inl x1), some (.inl (zfold (k234_25 x1 x3 ) i0 n a).1), some (.inl x3), some (.inl (Int32.ofNat (i0 + n))), (zfold (k234_25 x1 x3 ) i0 n a).2.1, (zfold (k234_25 x1 x3 ) i0 n a).2.2.1], [], (zfold (k234_25 x1 x3 ) i0 n a).2.2.2)) := by
  induction n with
  | zero => exact zt_rfl
  | succ n ih =>
    have e1 := zk_ix (i0 + n) (by omega)
    have e2 := zk_add (i0 + n)
    refine zt_trans (ih (by omega) (fun j hj => hc0 j (by omega)) (fun j hj => g0 j (by omega)) (fun j hj => g1 j (by omega))) ?_
    refine zt_cast (s234_25 x1 (zfold (k234_25 x1 x3 ) i0 n a).1 x3 (Int32.ofNat (i0 + n)) (zfold (k234_25 x1 x3 ) i0 n a).2.1 (zfold (k234_25 x1 x3 ) i0 n a).2.2.1 (zfold (k234_25 x1 x3 ) i0 n a).2.2.2 (by have hg := g0 n (by omega); first | exact hg | (simp only [e1]; exact hg)) (by have hg := g1 n (by omega); first | exact hg | (simp only [e1]; exact hg))) ?_
    rw [if_neg (show ¬ (216 ≤ (Int32.ofNat (i0 + n))) from (by have hg := hc0 n (by omega); first | exact hg | (simp only [e1]; exact hg)))]
    simp only [zfold, k234_25, e1, e2, ← Nat.add_assoc]
def K234_25 (x1 x2 x3 : Int32) (u5 u6 : Option zV) (i0 : Nat) (S : zS) : Int32 × Option zV × Option zV × zS := zfold (k234_25 x1 x3 ) i0 (216 - i0) (x2, u5, u6, S)
def K234_25_c2 (x1 x2 x3 : Int32) (u5 u6 : Option zV) (i0 : Nat) (S : zS) : Int32 := (K234_25 x1 x2 x3 u5 u6 i0 S).1
def K234_25_c5 (x1 x2 x3 : Int32) (u5 u6 : Option zV) (i0 : Nat) (S : zS) : Option zV := (K234_25 x1 x2 x3 u5 u6 i0 S).2.1
def K234_25_c6 (x1 x2 x3 : Int32) (u5 u6 : Option zV) (i0 : Nat) (S : zS) : Option zV := (K234_25 x1 x2 x3 u5 u6 i0 S).2.2.1
def K234_25_S (x1 x2 x3 : Int32) (u5 u6 : Option zV) (i0 : Nat) (S : zS) : zS := (K234_25 x1 x2 x3 u5 u6 i0 S).2.2.2
set_option maxRecDepth 100000 in
theorem L234_25 {L : Nat} (x1 x2 x3 : Int32) (u5 u6 : Option zV) (i0 : Nat) (S : zS) (hi : i0 ≤ 10000) (hLa : zLa (S 88)) : zt L 234 25 [some (.inr (.inr 13)), some (.inl x1), some (.inl x2), some (.inl x3), some (.inl (Int32.ofNat i0)), u5, u6] [] S (.inl (91, [some (.inr (.inr 13)), some (.inl x1), some (.inl (K234_25_c2 x1 x2 x3 u5 u6 i0 S)), some (.inl x3), some (.inl (Int32.ofNat (i0 + (216 - i0)))), (K234_25_c5 x1 x2 x3 u5 u6 i0 S), (K234_25_c6 x1 x2 x3 u5 u6 i0 S)], [], (K234_25_S x1 x2 x3 u5 u6 i0 S))) := by
  have hk88 : ∀ n, (zfold (k234_25 x1 x3 ) i0 n (x2, u5, u6, S)).2.2.2 88 = S 88 := fun n => zfold_keep (f := (k234_25 x1 x3 )) (fun (b : Int32 × Option zV × Option zV × zS) => b.2.2.2 88) (fun j b => by simp only [k234_25]; exact (w_K234_37_S_88 _ _ _ _ _ _ _)) n (x2, u5, u6, S)
  have hend : 216 ≤ Int32.ofNat (i0 + (216 - i0)) := by exact zc_le_end (show zn 216 216 from by unfold zn; decide) (by omega)
  refine zt_trans (l234_25 x1 x3   i0 (216 - i0) (x2, u5, u6, S) (by omega) (fun j hj => by exact zc_le (show zn 216 216 from by unfold zn; decide) hj (by omega)) (fun j hj _ => by exact zx_of (by omega) (by omega)) (fun j hj _ => by rw [hk88 j]; exact zrw_1 (hLa _ (by omega)))) ?_
  exact zt_cast (s234_25 x1 (zfold (k234_25 x1 x3 ) i0 (216 - i0) (x2, u5, u6, S)).1 x3 (Int32.ofNat (i0 + (216 - i0))) (zfold (k234_25 x1 x3 ) i0 (216 - i0) (x2, u5, u6, S)).2.1 (zfold (k234_25 x1 x3 ) i0 (216 - i0) (x2, u5, u6, S)).2.2.1 (zfold (k234_25 x1 x3 ) i0 (216 - i0) (x2, u5, u6, S)).2.2.2 (fun h9 => absurd hend h9) (fun h9 => absurd hend h9)) (if_pos hend)
def F234 (a : Int32) (S : zS) : Int32 := (if ((if ((¬ (a < 1)) ∧ (¬ (50 < a))) then ((if ((S 13 2) = 0) then (2 : Int32) else 0) : Int32) else 1) = 0) then ((K234_25_c2 a 0 (S 13 13) (none : Option zV) (none : Option zV) 0 (z_up S 13 0 (if ((¬ (a < 1)) ∧ (¬ (50 < a))) then ((if ((S 13 2) = 0) then (2 : Int32) else 0) : Int32) else 1))) : Int32) else 0)
def G234 (a : Int32) (S : zS) : zS := (if ((if ((¬ (a < 1)) ∧ (¬ (50 < a))) then ((if ((S 13 2) = 0) then (2 : Int32) else 0) : Int32) else 1) = 0) then (K234_25_S a 0 (S 13 13) (none : Option zV) (none : Option zV) 0 (z_up S 13 0 (if ((¬ (a < 1)) ∧ (¬ (50 < a))) then ((if ((S 13 2) = 0) then (2 : Int32) else 0) : Int32) else 1))) else (z_up S 13 0 (if ((¬ (a < 1)) ∧ (¬ (50 < a))) then ((if ((S 13 2) = 0) then (2 : Int32) else 0) : Int32) else 1)))
set_option maxRecDepth 100000 in
theorem f234 {L : Nat} (a : Int32) (S : zS) (g0 : zLa (S 88)) : zf L 234 [.inr (.inr 13), .inl a] S (.inl (some (.inl (F234 a S))), (G234 a S), 0) := zf_of (en_234 _ _) (zr_2_0 i234_0 (zr_1_1 i234_1 (zr_0 i234_2 kc_1 (zr_0 i234_3 kc_50 (zr_cv (zs_22_3 i234_4 na_213 rfl) (f213 a 1 50 S ) (zt_trans (zt_cast (zr_18b_1 i234_5 (fun h2195 => zr_2_0 i234_8 (zr_6 i234_9 fl_13_2 rfl (zt_cast (zr_18_0 i234_10 (fun h2197 => zr_0 i234_13 kc_2 (zt_rfl)) (fun h2198 => zr_0 i234_11 kc_0 (zr_17 i234_12 (zt_rfl)))) (zm_c zz_s (zl_c (zl_t zz_e) zz_s) zz_s)))) (fun h2196 => zr_0 i234_6 kc_1 (zr_17 i234_7 (zt_rfl)))) (zm_c zz_s (zl_c (zl_t zz_e) zz_s) zz_s)) (zr_cv (zs_21_1 i234_14 na_212 ob_13 rfl) (f212 (if ((¬ (a < 1)) ∧ (¬ (50 < a))) then ((if ((S 13 2) = 0) then (2 : Int32) else 0) : Int32) else 1) S ) (zt_cast (zr_18b_1 i234_15 (fun h2199 => zr_0 i234_18 kc_0 (zr_3_2 i234_19 (zr_2_0 i234_20 (zr_6 i234_21 fl_13_13 (zupf rfl) (zr_3_3 i234_22 (zr_0 i234_23 kc_0 (zr_3_4 i234_24 (zt_trans (L234_25 a 0 (S 13 13) (none : Option zV) (none : Option zV) 0 (z_up S 13 0 (if ((¬ (a < 1)) ∧ (¬ (50 < a))) then ((if ((S 13 2) = 0) then (2 : Int32) else 0) : Int32) else 1)) (by decide) (zpc1 (zupc rfl) (g0))) (zr_1_2 i234_91 (zr_25 i234_92)))))))))) (fun h2200 => zr_0 i234_16 kc_0 (zr_25 i234_17))) (zm_r zz_e zz_e)))))))))
