/-! the law: 25.17.law (wip/p57/gen) -/
theorem i338_33 : zi 338 33 34 1 6 0 := by decide +kernel
theorem i338_34 : zi 338 34 35 1 5 0 := by decide +kernel
theorem i338_35 : zi 338 35 36 19 72 3 := by decide +kernel
theorem i338_72 : zi 338 72 73 1 4 0 := by decide +kernel
theorem i338_73 : zi 338 73 74 18 80 0 := by decide +kernel
theorem i338_74 : zi 338 74 75 2 1 0 := by decide +kernel
theorem i338_75 : zi 338 75 76 2 2 0 := by decide +kernel
theorem i338_76 : zi 338 76 77 22 337 0 := by decide +kernel
theorem na_337 : z_na 337 = 2 := by decide +kernel
theorem i338_77 : zi 338 77 78 18 80 0 := by decide +kernel
theorem i338_78 : zi 338 78 79 0 0 1 := by decide +kernel
theorem i338_79 : zi 338 79 80 17 81 0 := by decide +kernel
theorem i338_81 : zi 338 81 82 26 0 0 := by decide +kernel
theorem i338_36 : zi 338 36 37 1 4 0 := by decide +kernel
theorem i338_37 : zi 338 37 38 18 72 0 := by decide +kernel
theorem i338_38 : zi 338 38 39 2 1 0 := by decide +kernel
theorem i338_39 : zi 338 39 40 2 2 0 := by decide +kernel
theorem i338_40 : zi 338 40 41 2 3 0 := by decide +kernel
theorem i338_41 : zi 338 41 42 2 0 0 := by decide +kernel
theorem i338_42 : zi 338 42 43 0 0 3 := by decide +kernel
theorem i338_43 : zi 338 43 44 1 6 0 := by decide +kernel
theorem i338_44 : zi 338 44 45 13 2 0 := by decide +kernel
theorem i338_45 : zi 338 45 46 22 324 0 := by decide +kernel
theorem na_324 : z_na 324 = 2 := by decide +kernel
theorem i338_46 : zi 338 46 47 2 0 0 := by decide +kernel
theorem i338_47 : zi 338 47 48 0 0 3 := by decide +kernel
theorem i338_48 : zi 338 48 49 1 6 0 := by decide +kernel
theorem i338_49 : zi 338 49 50 13 2 0 := by decide +kernel
theorem i338_50 : zi 338 50 51 0 0 1 := by decide +kernel
theorem i338_51 : zi 338 51 52 13 0 0 := by decide +kernel
theorem i338_52 : zi 338 52 53 22 324 0 := by decide +kernel
theorem i338_53 : zi 338 53 54 2 0 0 := by decide +kernel
theorem i338_54 : zi 338 54 55 0 0 3 := by decide +kernel
theorem i338_55 : zi 338 55 56 1 6 0 := by decide +kernel
theorem i338_56 : zi 338 56 57 13 2 0 := by decide +kernel
theorem i338_57 : zi 338 57 58 0 0 2 := by decide +kernel
theorem i338_58 : zi 338 58 59 13 0 0 := by decide +kernel
theorem i338_59 : zi 338 59 60 22 324 0 := by decide +kernel
theorem i338_60 : zi 338 60 61 22 327 0 := by decide +kernel
theorem na_327 : z_na 327 = 6 := by decide +kernel
theorem i338_61 : zi 338 61 62 18 68 0 := by decide +kernel
theorem i338_62 : zi 338 62 63 2 1 0 := by decide +kernel
theorem i338_63 : zi 338 63 64 2 2 0 := by decide +kernel
theorem i338_64 : zi 338 64 65 22 337 0 := by decide +kernel
theorem i338_65 : zi 338 65 66 18 68 0 := by decide +kernel
theorem i338_66 : zi 338 66 67 0 0 1 := by decide +kernel
theorem i338_67 : zi 338 67 68 17 69 0 := by decide +kernel
theorem i338_69 : zi 338 69 70 3 4 0 := by decide +kernel
theorem i338_70 : zi 338 70 71 5 6 1 := by decide +kernel
theorem i338_71 : zi 338 71 72 17 33 0 := by decide +kernel
theorem i338_10 : zi 338 10 11 2 1 0 := by decide +kernel
theorem i338_11 : zi 338 11 12 2 2 0 := by decide +kernel
theorem i338_12 : zi 338 12 13 2 3 0 := by decide +kernel
theorem i338_13 : zi 338 13 14 2 0 0 := by decide +kernel
theorem i338_14 : zi 338 14 15 0 0 0 := by decide +kernel
theorem i338_15 : zi 338 15 16 22 324 0 := by decide +kernel
theorem i338_16 : zi 338 16 17 22 325 0 := by decide +kernel
theorem na_325 : z_na 325 = 4 := by decide +kernel
theorem i338_17 : zi 338 17 18 3 4 0 := by decide +kernel
theorem i338_18 : zi 338 18 19 2 0 0 := by decide +kernel
theorem i338_19 : zi 338 19 20 12 0 0 := by decide +kernel
theorem i338_20 : zi 338 20 21 0 0 3 := by decide +kernel
theorem i338_21 : zi 338 21 22 13 3 0 := by decide +kernel
theorem i338_22 : zi 338 22 23 0 0 80 := by decide +kernel
theorem kc_80 : Int32.ofInt 80 = 80 := by decide +kernel
theorem i338_23 : zi 338 23 24 19 26 5 := by decide +kernel
theorem i338_26 : zi 338 26 27 2 0 0 := by decide +kernel
theorem i338_27 : zi 338 27 28 12 0 0 := by decide +kernel
theorem i338_28 : zi 338 28 29 0 0 3 := by decide +kernel
theorem i338_29 : zi 338 29 30 13 3 0 := by decide +kernel
theorem i338_30 : zi 338 30 31 3 5 0 := by decide +kernel
theorem i338_31 : zi 338 31 32 0 0 0 := by decide +kernel
theorem i338_32 : zi 338 32 33 3 6 0 := by decide +kernel
theorem i338_24 : zi 338 24 25 0 0 80 := by decide +kernel
theorem i338_25 : zi 338 25 26 17 30 0 := by decide +kernel
set_option maxRecDepth 100000 in
def F324_1000 (L : Nat) (a : Int32) (S : zS) : Int32 := (if ((Int32.ofNat L) ≤ a) then ((zrem (104729 * (a + 2)) 65521) : Int32) else ((S 1000 a.toNatClampNeg) &&& 2147483647))
set_option maxRecDepth 100000 in
theorem f324_1000 {L : Nat} (a : Int32) (S : zS) (g0 : (¬ ((Int32.ofNat L) ≤ a)) → zx L a) : zf L 324 [.inr (.inr 1000), .inl a] S (.inl (some (.inl (F324_1000 L a S))), S, 0) := zf_of (en_324 _ _) (zr_1_1 i324_0 (zr_2_0 i324_1 (zr_12s i324_2 (zt_trans (zt_cast (zr_19_3 i324_3 (fun h1507 => zr_0 i324_10 kc_104729 (zr_1_1 i324_11 (zr_0 i324_12 kc_2 (zr_13_0 i324_13 (zr_13_2 i324_14 (zr_0 i324_15 kc_65521 (zr_13_4 i324_16 nz_65521 (zt_rfl)))))))) (fun h1508 => zr_2_0 i324_4 (zr_1_1 i324_5 (zr_8s i324_6 (g0 h1508) (zr_0 i324_7 kc_2147483647 (zr_13_5 i324_8 (zr_17 i324_9 (zt_rfl)))))))) (zm_c zz_s (zl_c (zl_t zz_e) zz_s) zz_s)) (zr_25 i324_17)))))
theorem jand31 (x : Int32) : 0 ≤ (x &&& 2147483647).toInt := by
  have e : (x &&& 2147483647).toInt = (x.toBitVec &&& (2147483647 : Int32).toBitVec).toInt := by rw [← Int32.toBitVec_and]; rfl
  have m : (2147483647 : Int32).toBitVec.msb = false := by decide
  have hm : (x.toBitVec &&& (2147483647 : Int32).toBitVec).msb = false := by rw [BitVec.msb_and, m, Bool.and_false]
  rw [e, BitVec.toInt_eq_msb_cond, hm]
  simp
theorem q324 {L : Nat} (hL : L ≤ 260) (a : Int32) (S : zS) (ha : 0 ≤ a.toInt ∧ a.toInt ≤ 250) : ∃ v, zf L 324 [.inr (.inr 1000), .inl a] S (.inl (some (.inl v)), S, 0) ∧ 0 ≤ v.toInt := by
  have eL : (Int32.ofNat L).toInt = L := zk_ti L (by omega)
  refine ⟨_, f324_1000 a S (fun h => by rw [zk_le, eL] at h; rw [zx_iff]; omega), ?_⟩
  unfold F324_1000
  split
  · have e1 : (a + 2).toInt = a.toInt + 2 := by rw [zk_tadd (by rw [jk_2]; omega) (by rw [jk_2]; omega), jk_2]
    have e2 : (104729 * (a + 2)).toInt = 104729 * (a.toInt + 2) := by rw [zk_tmul (by rw [e1, jk_104729]; omega) (by rw [e1, jk_104729]; omega), e1, jk_104729]
    exact (jrem (x := 104729 * (a + 2)) (y := 65521) (by rw [e2]; omega) (by decide)).1
  · exact jand31 _
theorem jk_80b : (80 : Int32).toInt = 80 := rfl

set_option maxRecDepth 100000 in
theorem q338r {L : Nat} (t k : Int32) {S : zS} {j : Nat} (hL : L ≤ 260) (w : jLaw (6 * j) S) (hj : (j : Int) ≤ t.toInt) (ht : t.toInt ≤ 80) (hk : k = Int32.ofNat j) (IH : ∀ S1 : zS, (j : Int) < t.toInt → jLaw (6 * (j + 1)) S1 → zH L 338 (33, [some (.inr (.inr 1000)), some (.inr (.inr 0)), some (.inr (.inr 13)), some (.inr (.inr 81)), some (.inl 1), some (.inl t), some (.inl (k + 1))], [], S1) (jQ (fun _ => True))) : zH L 338 (33, [some (.inr (.inr 1000)), some (.inr (.inr 0)), some (.inr (.inr 13)), some (.inr (.inr 81)), some (.inl 1), some (.inl t), some (.inl k)], [], S) (jQ (fun S' => True)) := by
  have ej : k.toInt = j := by rw [hk]; exact zk_ti j (by omega)
  refine zH_pre (zr_1_6 i338_33 (zr_1_5 i338_34 (zt_rfl))) ?_
  by_cases hd : (t ≤ k)
  · refine zH_pre (zt_cast (zr_19_3 i338_35 (fun _ => zt_rfl) (fun _ => zt_rfl)) (if_pos hd)) ?_
    refine zH_pre (zr_1_4 i338_72 (zt_rfl)) ?_
    refine zH_pre (zr_18f_0 i338_73 (by decide) zt_rfl) ?_
    refine zH_pre (zr_2_1 i338_74 (zr_2_2 i338_75 (zt_rfl))) ?_
    obtain ⟨S1, hz, fz⟩ := q337 (by omega) w
    refine zH_call (zs_22_2 i338_76 na_337 rfl) hz ?_
    obtain rfl := fz
    refine zH_pre (zr_18f_0 i338_77 (by decide) zt_rfl) ?_
    refine zH_pre (zr_0 i338_78 kc_1 (zr_17 i338_79 (zt_rfl))) ?_
    exact zH_ret (zr_26 i338_81 zo_1) ⟨rfl, trivial⟩
  · refine zH_pre (zt_cast (zr_19_3 i338_35 (fun _ => zt_rfl) (fun _ => zt_rfl)) (if_neg hd)) ?_
    have hlt : (j : Int) < t.toInt := by rw [zk_le] at hd; omega
    have e3 : (3 * k).toInt = 3 * k.toInt := by rw [zk_tmul (by rw [jk_3]; omega) (by rw [jk_3]; omega), jk_3]
    have e31 : ((3 * k) + 1).toInt = 3 * k.toInt + 1 := by rw [zk_tadd (by rw [zk_1]; omega) (by rw [zk_1]; omega), zk_1, e3]
    have e32 : ((3 * k) + 2).toInt = 3 * k.toInt + 2 := by rw [zk_tadd (by rw [jk_2]; omega) (by rw [jk_2]; omega), jk_2, e3]
    refine zH_pre (zr_1_4 i338_36 (zt_rfl)) ?_
    refine zH_pre (zr_18f_0 i338_37 (by decide) zt_rfl) ?_
    refine zH_pre (zr_2_1 i338_38 (zr_2_2 i338_39 (zr_2_3 i338_40 (zr_2_0 i338_41 (zr_0 i338_42 kc_3 (zr_1_6 i338_43 (zr_13_2 i338_44 (zt_rfl)))))))) ?_
    obtain ⟨x, hz, fz⟩ := q324 hL (3 * k) S (by rw [e3]; omega)
    refine zH_call (zs_22_2 i338_45 na_324 rfl) hz ?_
    have hx := fz
    refine zH_pre (zr_2_0 i338_46 (zr_0 i338_47 kc_3 (zr_1_6 i338_48 (zr_13_2 i338_49 (zr_0 i338_50 kc_1 (zr_13_0 i338_51 (zt_rfl))))))) ?_
    obtain ⟨y, hz, fz⟩ := q324 hL ((3 * k) + 1) S (by rw [e31]; omega)
    refine zH_call (zs_22_2 i338_52 na_324 rfl) hz ?_
    have hy := fz
    refine zH_pre (zr_2_0 i338_53 (zr_0 i338_54 kc_3 (zr_1_6 i338_55 (zr_13_2 i338_56 (zr_0 i338_57 kc_2 (zr_13_0 i338_58 (zt_rfl))))))) ?_
    obtain ⟨z, hz, fz⟩ := q324 hL ((3 * k) + 2) S (by rw [e32]; omega)
    refine zH_call (zs_22_2 i338_59 na_324 rfl) hz ?_
    have hz0 := fz
    obtain ⟨S1, hz, fz⟩ := q327 x y z (by omega) w hx hy hz0
    refine zH_call (zs_22_6 i338_60 na_327 rfl) hz ?_
    have w1 := fz
    refine zH_pre (zr_18f_0 i338_61 (by decide) zt_rfl) ?_
    refine zH_pre (zr_2_1 i338_62 (zr_2_2 i338_63 (zt_rfl))) ?_
    obtain ⟨S2, hz, fz⟩ := q337 (by omega) w1
    refine zH_call (zs_22_2 i338_64 na_337 rfl) hz ?_
    obtain rfl := fz
    refine zH_pre (zr_18f_0 i338_65 (by decide) zt_rfl) ?_
    refine zH_pre (zr_0 i338_66 kc_1 (zr_17 i338_67 (zr_3_4 i338_69 (zr_5_6 i338_70 kc_1 (zr_17 i338_71 (zt_rfl)))))) ?_
    exact IH S2 hlt w1
set_option maxRecDepth 100000 in
theorem q338l {L : Nat} {t : Int32} (hL : L ≤ 260) (ht : t.toInt ≤ 80) : ∀ (r j : Nat) (S : zS), (j : Int) + r = t.toInt → jLaw (6 * j) S → zH L 338 (33, [some (.inr (.inr 1000)), some (.inr (.inr 0)), some (.inr (.inr 13)), some (.inr (.inr 81)), some (.inl 1), some (.inl t), some (.inl (Int32.ofNat j))], [], S) (jQ (fun _ => True))
  | 0, j, S, hr, w => q338r _ _ hL w (by omega) ht rfl (fun S1 hlt => absurd hlt (by omega))
  | r + 1, j, S, hr, w => q338r _ _ hL w (by omega) ht rfl (fun S1 _ h2 => by
      have := q338l (L := L) hL ht r (j + 1) S1 (by omega) h2
      rw [← zk_add] at this
      exact this)
set_option maxRecDepth 100000 in
theorem q338 {L : Nat} {S : zS} {X : Nat → Int32} (hL : L ≤ 260) (hS : S = z0 X) : zH L 338 (10, [some (.inr (.inr 1000)), some (.inr (.inr 0)), some (.inr (.inr 13)), some (.inr (.inr 81)), none, none, none], [], S) (jQ (fun S' => True)) := by
  have eL : (Int32.ofNat L).toInt = L := zk_ti L (by omega)
  have hd3 := jdv (x := Int32.ofNat L) (y := 3) (by rw [eL]; omega) (by decide)
  refine zH_pre (zr_2_1 i338_10 (zr_2_2 i338_11 (zr_2_3 i338_12 (zr_2_0 i338_13 (zr_0 i338_14 kc_0 (zt_rfl)))))) ?_
  obtain ⟨x, hz, fz⟩ := q324 hL 0 S (by decide)
  refine zH_call (zs_22_2 i338_15 na_324 rfl) hz ?_
  have hx := fz
  obtain ⟨S1, hz, fz⟩ := q325 x hS hx
  refine zH_call (zs_22_4 i338_16 na_325 rfl) hz ?_
  have w1 := fz
  refine zH_pre (zr_3_4 i338_17 (zr_2_0 i338_18 (zr_12s i338_19 (zr_0 i338_20 kc_3 (zr_13_3 i338_21 nz_3 (zr_0 i338_22 kc_80 (zt_rfl))))))) ?_
  by_cases h80 : (((Int32.ofNat L) / 3) ≤ 80)
  · refine zH_pre (zt_cast (zr_19_5 i338_23 (fun _ => zt_rfl) (fun _ => zt_rfl)) (if_pos h80)) ?_
    have ht : ((Int32.ofNat L) / 3).toInt ≤ 80 := by rw [zk_le, jk_80b] at h80; exact h80
    refine zH_pre (zr_2_0 i338_26 (zr_12s i338_27 (zr_0 i338_28 kc_3 (zr_13_3 i338_29 nz_3 (zr_3_5 i338_30 (zr_0 i338_31 kc_0 (zr_3_6 i338_32 (zt_rfl)))))))) ?_
    exact q338l hL ht ((Int32.ofNat L) / 3).toNatClampNeg 0 S1 (by have := zk_nat hd3.1; omega) w1
  · refine zH_pre (zt_cast (zr_19_5 i338_23 (fun _ => zt_rfl) (fun _ => zt_rfl)) (if_neg h80)) ?_
    refine zH_pre (zr_0 i338_24 kc_80 (zr_17 i338_25 (zr_3_5 i338_30 (zr_0 i338_31 kc_0 (zr_3_6 i338_32 (zt_rfl)))))) ?_
    exact q338l hL (by decide) 80 0 S1 rfl w1
