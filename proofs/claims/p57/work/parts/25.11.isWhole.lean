/-! the law: 25.11.isWhole (wip/p57/gen) -/
theorem i337_78 : zi 337 78 79 1 3 0 := by decide +kernel
theorem i337_79 : zi 337 79 80 2 1 0 := by decide +kernel
theorem i337_80 : zi 337 80 81 0 0 1 := by decide +kernel
theorem i337_81 : zi 337 81 82 8 0 0 := by decide +kernel
theorem i337_82 : zi 337 82 83 19 99 3 := by decide +kernel
theorem i337_99 : zi 337 99 100 1 2 0 := by decide +kernel
theorem i337_100 : zi 337 100 101 26 0 0 := by decide +kernel
theorem i337_83 : zi 337 83 84 1 2 0 := by decide +kernel
theorem i337_84 : zi 337 84 85 18 99 0 := by decide +kernel
theorem i337_85 : zi 337 85 86 2 0 0 := by decide +kernel
theorem i337_86 : zi 337 86 87 1 3 0 := by decide +kernel
theorem i337_87 : zi 337 87 88 21 155 11 := by decide +kernel
theorem i337_88 : zi 337 88 89 18 93 1 := by decide +kernel
theorem i337_89 : zi 337 89 90 2 0 0 := by decide +kernel
theorem i337_90 : zi 337 90 91 1 3 0 := by decide +kernel
theorem i337_91 : zi 337 91 92 21 156 11 := by decide +kernel
theorem i337_92 : zi 337 92 93 18 95 1 := by decide +kernel
theorem i337_93 : zi 337 93 94 0 0 1 := by decide +kernel
theorem i337_94 : zi 337 94 95 17 96 0 := by decide +kernel
theorem i337_96 : zi 337 96 97 3 2 0 := by decide +kernel
theorem i337_97 : zi 337 97 98 5 3 1 := by decide +kernel
theorem i337_98 : zi 337 98 99 17 78 0 := by decide +kernel
theorem i337_41 : zi 337 41 42 1 3 0 := by decide +kernel
theorem i337_42 : zi 337 42 43 2 1 0 := by decide +kernel
theorem i337_43 : zi 337 43 44 0 0 2 := by decide +kernel
theorem i337_44 : zi 337 44 45 8 0 0 := by decide +kernel
theorem i337_45 : zi 337 45 46 19 76 3 := by decide +kernel
theorem i337_76 : zi 337 76 77 0 0 0 := by decide +kernel
theorem i337_77 : zi 337 77 78 3 3 0 := by decide +kernel
theorem i337_46 : zi 337 46 47 1 2 0 := by decide +kernel
theorem i337_47 : zi 337 47 48 18 76 0 := by decide +kernel
theorem i337_48 : zi 337 48 49 2 0 0 := by decide +kernel
theorem i337_49 : zi 337 49 50 1 3 0 := by decide +kernel
theorem i337_50 : zi 337 50 51 21 166 11 := by decide +kernel
theorem i337_51 : zi 337 51 52 18 63 1 := by decide +kernel
theorem i337_52 : zi 337 52 53 2 0 0 := by decide +kernel
theorem i337_53 : zi 337 53 54 1 3 0 := by decide +kernel
theorem i337_54 : zi 337 54 55 21 167 11 := by decide +kernel
theorem i337_55 : zi 337 55 56 2 1 0 := by decide +kernel
theorem i337_56 : zi 337 56 57 0 0 0 := by decide +kernel
theorem i337_57 : zi 337 57 58 8 0 0 := by decide +kernel
theorem i337_58 : zi 337 58 59 19 61 5 := by decide +kernel
theorem i337_59 : zi 337 59 60 0 0 1 := by decide +kernel
theorem i337_60 : zi 337 60 61 17 73 0 := by decide +kernel
theorem i337_73 : zi 337 73 74 3 2 0 := by decide +kernel
theorem i337_74 : zi 337 74 75 5 3 1 := by decide +kernel
theorem i337_75 : zi 337 75 76 17 41 0 := by decide +kernel
theorem i337_63 : zi 337 63 64 2 0 0 := by decide +kernel
theorem i337_64 : zi 337 64 65 1 3 0 := by decide +kernel
theorem i337_65 : zi 337 65 66 21 167 11 := by decide +kernel
theorem i337_66 : zi 337 66 67 2 1 0 := by decide +kernel
theorem i337_67 : zi 337 67 68 0 0 0 := by decide +kernel
theorem i337_68 : zi 337 68 69 8 0 0 := by decide +kernel
theorem i337_69 : zi 337 69 70 19 72 4 := by decide +kernel
theorem i337_70 : zi 337 70 71 0 0 1 := by decide +kernel
theorem i337_71 : zi 337 71 72 17 73 0 := by decide +kernel
theorem i337_17 : zi 337 17 18 1 3 0 := by decide +kernel
theorem i337_18 : zi 337 18 19 0 0 3 := by decide +kernel
theorem i337_19 : zi 337 19 20 19 39 3 := by decide +kernel
theorem i337_39 : zi 337 39 40 0 0 0 := by decide +kernel
theorem i337_40 : zi 337 40 41 3 3 0 := by decide +kernel
theorem i337_20 : zi 337 20 21 1 2 0 := by decide +kernel
theorem i337_21 : zi 337 21 22 18 35 0 := by decide +kernel
theorem i337_22 : zi 337 22 23 2 0 0 := by decide +kernel
theorem i337_23 : zi 337 23 24 1 3 0 := by decide +kernel
theorem i337_24 : zi 337 24 25 21 168 11 := by decide +kernel
theorem na_168 : z_na 168 = 1 := by decide +kernel
theorem i337_25 : zi 337 25 26 2 0 0 := by decide +kernel
theorem i337_26 : zi 337 26 27 1 3 0 := by decide +kernel
theorem i337_27 : zi 337 27 28 21 169 11 := by decide +kernel
theorem na_169 : z_na 169 = 1 := by decide +kernel
theorem i337_28 : zi 337 28 29 19 35 1 := by decide +kernel
theorem i337_29 : zi 337 29 30 2 0 0 := by decide +kernel
theorem i337_30 : zi 337 30 31 1 3 0 := by decide +kernel
theorem i337_31 : zi 337 31 32 21 168 11 := by decide +kernel
theorem i337_32 : zi 337 32 33 18 35 2 := by decide +kernel
theorem i337_33 : zi 337 33 34 0 0 1 := by decide +kernel
theorem i337_34 : zi 337 34 35 17 36 0 := by decide +kernel
theorem i337_36 : zi 337 36 37 3 2 0 := by decide +kernel
theorem i337_37 : zi 337 37 38 5 3 1 := by decide +kernel
theorem i337_38 : zi 337 38 39 17 17 0 := by decide +kernel
theorem ml_337 : z_ml 337 = 4 := by decide +kernel
theorem en_337 : ∀ (v0 v1 : zV), z_ent 337 [v0, v1] = [some v0, some v1, none, none] := fun v0 v1 => by unfold z_ent; rw [ml_337]; rfl
theorem i337_0 : zi 337 0 1 2 0 0 := by decide +kernel
theorem i337_1 : zi 337 1 2 21 135 11 := by decide +kernel
theorem i337_2 : zi 337 2 3 2 1 0 := by decide +kernel
theorem i337_3 : zi 337 3 4 0 0 8 := by decide +kernel
theorem i337_4 : zi 337 4 5 8 0 0 := by decide +kernel
theorem i337_5 : zi 337 5 6 0 0 1 := by decide +kernel
theorem i337_6 : zi 337 6 7 19 9 1 := by decide +kernel
theorem i337_7 : zi 337 7 8 0 0 1 := by decide +kernel
theorem i337_8 : zi 337 8 9 17 10 0 := by decide +kernel
theorem i337_10 : zi 337 10 11 19 13 1 := by decide +kernel
theorem i337_11 : zi 337 11 12 0 0 1 := by decide +kernel
theorem i337_12 : zi 337 12 13 17 14 0 := by decide +kernel
theorem i337_14 : zi 337 14 15 3 2 0 := by decide +kernel
theorem i337_15 : zi 337 15 16 0 0 0 := by decide +kernel
theorem i337_16 : zi 337 16 17 3 3 0 := by decide +kernel
theorem i337_9 : zi 337 9 10 0 0 0 := by decide +kernel

theorem jcnt {n : Nat} {S : zS} (hn : n < 490) (h : jI n S) {a : Int32} {s : Nat} (ha : a = Int32.ofNat s) (hs : s < 3) : S 49 a.toNatClampNeg = A169 a S ∧ 0 ≤ (S 49 a.toNatClampNeg).toInt := by
  obtain ⟨h1, h2⟩ := rCnt_0 (jI_Cnt h) s hs
  have hL := rLea_0 (jI_Lea h)
  have hLn := zk_nat hL.1
  have hna : a.toNatClampNeg = s := by rw [ha]; exact zk_ix s (by omega)
  unfold zn at h1 hL
  have key : (A169 a S).toInt = (S 50 s).toInt + (jN (S 43) (S 46) s (S 6 0).toNatClampNeg : Nat) := by
    unfold A169 K58_7_c2 K58_7
    rw [hna, Nat.sub_zero]
    refine zfold_inv (f := k58_7 a S) (i := 0) (n := (S 6 0).toNatClampNeg) (a := S 50 s) (I := fun j (v : Int32) => v.toInt = (S 50 s).toInt + (jN (S 43) (S 46) s j : Nat)) (by show _ = _ + ((0 : Nat) : Int); omega) (fun j v hj hI => ?_)
    have hle := jN_le (S 43) (S 46) s j
    show (k58_7 a S (0 + j) v).toInt = _ + ((jN (S 43) (S 46) s j + (if S 43 j = Int32.ofNat s ∧ ¬ S 46 j = 2 then 1 else 0) : Nat) : Int)
    unfold k58_7
    rw [Nat.zero_add, ha]
    by_cases c1 : S 43 j = Int32.ofNat s
    · rw [if_pos c1]
      by_cases c2 : S 46 j = 2
      · rw [if_pos c2, if_neg (fun e => e.2 c2), hI]; omega
      · rw [if_neg c2, if_pos ⟨c1, c2⟩, zk_tadd (by rw [zk_1]; omega) (by rw [zk_1]; omega), zk_1, hI]; omega
    · rw [if_neg c1, if_neg (fun e => c1 e.1), hI]; omega
  exact ⟨zk_eq.mpr (by rw [key, hna]; exact h2), by rw [hna, h2]; omega⟩

set_option maxRecDepth 100000 in
theorem q337c {L : Nat} (k : Int32) {S : zS} {n j : Nat} (hn : n < 490) (w : jLaw n S) (hk : k = Int32.ofNat j) (hj : (j : Int) ≤ (S 5 0).toInt) (IH : (j : Int) < (S 5 0).toInt → zH L 337 (78, [some (.inr (.inr 0)), some (.inr (.inr 13)), some (.inl 1), some (.inl (k + 1))], [], S) (jQ (fun S1 => S1 = S))) : zH L 337 (78, [some (.inr (.inr 0)), some (.inr (.inr 13)), some (.inl 1), some (.inl k)], [], S) (jQ (fun S' => S' = S)) := by
  have k1 := jcx1 w.2.1
  have hT := rTok_0 (jI_Tok w.1)
  unfold zn at hT
  have hnt := zk_nat hT.1
  have ej : k.toInt = j := by rw [hk]; exact zk_ti j (by omega)
  have hna : k.toNatClampNeg = j := by rw [hk]; exact zk_ix j (by omega)
  refine zH_pre (zr_1_3 i337_78 (zr_2_1 i337_79 (zr_0 i337_80 kc_1 (zr_8 i337_81 ar_13 (zx_9_1) kt_1 rfl (zt_rfl))))) ?_
  by_cases hd : ((S 13 1) ≤ k)
  · refine zH_pre (zt_cast (zr_19_3 i337_82 (fun _ => zt_rfl) (fun _ => zt_rfl)) (if_pos hd)) ?_
    refine zH_pre (zr_1_2 i337_99 (zt_rfl)) ?_
    exact zH_ret (zr_26 i337_100 zo_1) ⟨rfl, rfl⟩
  · refine zH_pre (zt_cast (zr_19_3 i337_82 (fun _ => zt_rfl) (fun _ => zt_rfl)) (if_neg hd)) ?_
    have hlt : k.toInt < (S 5 0).toInt := by rw [zk_le, k1] at hd; omega
    refine zH_pre (zr_1_2 i337_83 (zt_rfl)) ?_
    refine zH_pre (zr_18f_0 i337_84 (by decide) zt_rfl) ?_
    refine zH_pre (zr_2_0 i337_85 (zr_1_3 i337_86 (zt_rfl))) ?_
    have hP : jP155 k S := ⟨jI_n (by omega) w.1, jdem (by omega) hlt⟩
    refine zH_call (zs_21_1 i337_87 na_155 ob_0 rfl) (y155 k S hP) ?_
    have f := (show (A155 k S) = S 37 j from by unfold A155; rw [hna])
    generalize (A155 k S) = u at f ⊢
    have hu := f
    by_cases cu : (u = 0)
    · refine zH_pre (zt_cast (zr_18_1 i337_88 (fun _ => zt_rfl) (fun _ => zt_rfl)) (if_pos cu)) ?_
      refine zH_pre (zr_2_0 i337_89 (zr_1_3 i337_90 (zt_rfl))) ?_
      have hP : jP156 k S := ⟨jI_n (by omega) w.1, jdem (by omega) hlt⟩
      refine zH_call (zs_21_1 i337_91 na_156 ob_0 rfl) (y156 k S hP) ?_
      have f := (show (A156 k S) = 0 from (zb_0 _).mpr (fun e => jI_Use w.1 j (by omega) (by rw [hna] at e; exact e) (hu.symm.trans cu)))
      generalize (A156 k S) = l at f ⊢
      have hc : (l = 0) := f
      refine zH_pre (zt_cast (zr_18_1 i337_92 (fun _ => zt_rfl) (fun _ => zt_rfl)) (if_pos hc)) ?_
      clear hc
      refine zH_pre (zr_0 i337_93 kc_1 (zr_17 i337_94 (zr_3_2 i337_96 (zr_5_3 i337_97 kc_1 (zr_17 i337_98 (zt_rfl)))))) ?_
      exact IH (by omega)
    · refine zH_pre (zt_cast (zr_18_1 i337_88 (fun _ => zt_rfl) (fun _ => zt_rfl)) (if_neg cu)) ?_
      refine zH_pre (zr_0 i337_93 kc_1 (zr_17 i337_94 (zr_3_2 i337_96 (zr_5_3 i337_97 kc_1 (zr_17 i337_98 (zt_rfl)))))) ?_
      exact IH (by omega)
set_option maxRecDepth 100000 in
theorem q337cl {L : Nat} {S : zS} {n : Nat} (hn : n < 490) (w : jLaw n S) : ∀ (r j : Nat), (j : Int) + r = (S 5 0).toInt → zH L 337 (78, [some (.inr (.inr 0)), some (.inr (.inr 13)), some (.inl 1), some (.inl (Int32.ofNat j))], [], S) (jQ (fun S1 => S1 = S))
  | 0, j, hr => q337c _ hn w rfl (by omega) (fun hlt => absurd hlt (by omega))
  | r + 1, j, hr => q337c _ hn w rfl (by omega) (fun _ => by
      have := q337cl (L := L) hn w r (j + 1) (by omega)
      rw [← zk_add] at this
      exact this)
set_option maxRecDepth 100000 in
theorem q337b {L : Nat} (k : Int32) {S : zS} {n j : Nat} (hn : n < 490) (w : jLaw n S) (hk : k = Int32.ofNat j) (hj : (j : Int) ≤ (S 6 0).toInt) (IH : (j : Int) < (S 6 0).toInt → zH L 337 (41, [some (.inr (.inr 0)), some (.inr (.inr 13)), some (.inl 1), some (.inl (k + 1))], [], S) (jQ (fun S1 => S1 = S))) (E : zH L 337 (78, [some (.inr (.inr 0)), some (.inr (.inr 13)), some (.inl 1), some (.inl 0)], [], S) (jQ (fun S1 => S1 = S))) : zH L 337 (41, [some (.inr (.inr 0)), some (.inr (.inr 13)), some (.inl 1), some (.inl k)], [], S) (jQ (fun S' => S' = S)) := by
  have k2 := jcx2 w.2.1
  have k0 := jcx0 w.2.1
  have hL := rLea_0 (jI_Lea w.1)
  unfold zn at hL
  have hnl := zk_nat hL.1
  have ej : k.toInt = j := by rw [hk]; exact zk_ti j (by omega)
  have hna : k.toNatClampNeg = j := by rw [hk]; exact zk_ix j (by omega)
  refine zH_pre (zr_1_3 i337_41 (zr_2_1 i337_42 (zr_0 i337_43 kc_2 (zr_8 i337_44 ar_13 (zx_9_2) kt_2 rfl (zt_rfl))))) ?_
  by_cases hd : ((S 13 2) ≤ k)
  · refine zH_pre (zt_cast (zr_19_3 i337_45 (fun _ => zt_rfl) (fun _ => zt_rfl)) (if_pos hd)) ?_
    refine zH_pre (zr_0 i337_76 kc_0 (zr_3_3 i337_77 (zt_rfl))) ?_
    exact E
  · refine zH_pre (zt_cast (zr_19_3 i337_45 (fun _ => zt_rfl) (fun _ => zt_rfl)) (if_neg hd)) ?_
    have hlt : k.toInt < (S 6 0).toInt := by rw [zk_le, k2] at hd; omega
    have hE := (jI_End w.1) j (by omega)
    refine zH_pre (zr_1_2 i337_46 (zt_rfl)) ?_
    refine zH_pre (zr_18f_0 i337_47 (by decide) zt_rfl) ?_
    refine zH_pre (zr_2_0 i337_48 (zr_1_3 i337_49 (zt_rfl))) ?_
    have hP : jP166 k S := ⟨jI_n (by omega) w.1, jdem (by omega) hlt⟩
    refine zH_call (zs_21_1 i337_50 na_166 ob_0 rfl) (y166 k S hP) ?_
    have f := (show (A166 k S) = S 46 j from by unfold A166; rw [hna])
    generalize (A166 k S) = t at f ⊢
    have ht := f
    by_cases ct : (t = 0)
    · refine zH_pre (zt_cast (zr_18_1 i337_51 (fun _ => zt_rfl) (fun _ => zt_rfl)) (if_pos ct)) ?_
      refine zH_pre (zr_2_0 i337_52 (zr_1_3 i337_53 (zt_rfl))) ?_
      have hP : jP167 k S := ⟨jI_n (by omega) w.1, jdem (by omega) hlt⟩
      refine zH_call (zs_21_1 i337_54 na_167 ob_0 rfl) (y167 k S hP) ?_
      have f := (show (A167 k S) = S 44 j from by unfold A167; rw [hna])
      generalize (A167 k S) = l at f ⊢
      have hl := f
      refine zH_pre (zr_2_1 i337_55 (zr_0 i337_56 kc_0 (zr_8 i337_57 ar_13 (zx_9_0) kt_0 rfl (zt_rfl)))) ?_
      have hc : ¬ (l ≤ (S 13 0)) := by rw [hl, k0, zk_le]; have := hE.1 (ht.symm.trans ct); omega
      refine zH_pre (zt_cast (zr_19_5 i337_58 (fun _ => zt_rfl) (fun _ => zt_rfl)) (if_neg hc)) ?_
      clear hc
      refine zH_pre (zr_0 i337_59 kc_1 (zr_17 i337_60 (zr_3_2 i337_73 (zr_5_3 i337_74 kc_1 (zr_17 i337_75 (zt_rfl)))))) ?_
      exact IH (by omega)
    · refine zH_pre (zt_cast (zr_18_1 i337_51 (fun _ => zt_rfl) (fun _ => zt_rfl)) (if_neg ct)) ?_
      refine zH_pre (zr_2_0 i337_63 (zr_1_3 i337_64 (zt_rfl))) ?_
      have hP : jP167 k S := ⟨jI_n (by omega) w.1, jdem (by omega) hlt⟩
      refine zH_call (zs_21_1 i337_65 na_167 ob_0 rfl) (y167 k S hP) ?_
      have f := (show (A167 k S) = S 44 j from by unfold A167; rw [hna])
      generalize (A167 k S) = l at f ⊢
      have hl := f
      refine zH_pre (zr_2_1 i337_66 (zr_0 i337_67 kc_0 (zr_8 i337_68 ar_13 (zx_9_0) kt_0 rfl (zt_rfl)))) ?_
      have hc : ¬ ((S 13 0) < l) := by rw [hl, k0, zk_lt]; have := hE.2 (fun e => ct (ht.trans e)); omega
      refine zH_pre (zt_cast (zr_19_4 i337_69 (fun _ => zt_rfl) (fun _ => zt_rfl)) (if_neg hc)) ?_
      clear hc
      refine zH_pre (zr_0 i337_70 kc_1 (zr_17 i337_71 (zr_3_2 i337_73 (zr_5_3 i337_74 kc_1 (zr_17 i337_75 (zt_rfl)))))) ?_
      exact IH (by omega)
set_option maxRecDepth 100000 in
theorem q337bl {L : Nat} {S : zS} {n : Nat} (hn : n < 490) (w : jLaw n S) (E : zH L 337 (78, [some (.inr (.inr 0)), some (.inr (.inr 13)), some (.inl 1), some (.inl 0)], [], S) (jQ (fun S1 => S1 = S))) : ∀ (r j : Nat), (j : Int) + r = (S 6 0).toInt → zH L 337 (41, [some (.inr (.inr 0)), some (.inr (.inr 13)), some (.inl 1), some (.inl (Int32.ofNat j))], [], S) (jQ (fun S1 => S1 = S))
  | 0, j, hr => q337b _ hn w rfl (by omega) (fun hlt => absurd hlt (by omega)) E
  | r + 1, j, hr => q337b _ hn w rfl (by omega) (fun _ => by
      have := q337bl (L := L) hn w E r (j + 1) (by omega)
      rw [← zk_add] at this
      exact this) E
set_option maxRecDepth 100000 in
theorem q337a {L : Nat} (k : Int32) {S : zS} {n j : Nat} (hn : n < 490) (w : jLaw n S) (hk : k = Int32.ofNat j) (hj : (j : Int) ≤ 3) (IH : (j : Int) < 3 → zH L 337 (17, [some (.inr (.inr 0)), some (.inr (.inr 13)), some (.inl 1), some (.inl (k + 1))], [], S) (jQ (fun S1 => S1 = S))) (E : zH L 337 (41, [some (.inr (.inr 0)), some (.inr (.inr 13)), some (.inl 1), some (.inl 0)], [], S) (jQ (fun S1 => S1 = S))) : zH L 337 (17, [some (.inr (.inr 0)), some (.inr (.inr 13)), some (.inl 1), some (.inl k)], [], S) (jQ (fun S' => S' = S)) := by
  have ej : k.toInt = j := by rw [hk]; exact zk_ti j (by omega)
  refine zH_pre (zr_1_3 i337_17 (zr_0 i337_18 kc_3 (zt_rfl))) ?_
  by_cases hd : (3 ≤ k)
  · refine zH_pre (zt_cast (zr_19_3 i337_19 (fun _ => zt_rfl) (fun _ => zt_rfl)) (if_pos hd)) ?_
    refine zH_pre (zr_0 i337_39 kc_0 (zr_3_3 i337_40 (zt_rfl))) ?_
    exact E
  · refine zH_pre (zt_cast (zr_19_3 i337_19 (fun _ => zt_rfl) (fun _ => zt_rfl)) (if_neg hd)) ?_
    have hlt : k.toInt < 3 := by rw [zk_le, jk_3] at hd; omega
    obtain ⟨z1, z2⟩ := jcnt (by omega) w.1 hk (by omega)
    have hx : (¬ (k < 0)) ∧ (¬ (3 ≤ k)) := jdem (by omega) (by rw [jk_3]; exact hlt)
    refine zH_pre (zr_1_2 i337_20 (zt_rfl)) ?_
    refine zH_pre (zr_18f_0 i337_21 (by decide) zt_rfl) ?_
    refine zH_pre (zr_2_0 i337_22 (zr_1_3 i337_23 (zt_rfl))) ?_
    have hP : jP168 k S := ⟨jI_n (by omega) w.1, hx⟩
    refine zH_call (zs_21_1 i337_24 na_168 ob_0 rfl) (y168 k S hP) ?_
    have f := (show (A168 k S) = S 49 k.toNatClampNeg from rfl)
    generalize (A168 k S) = r1 at f ⊢
    have hr1 := f
    refine zH_pre (zr_2_0 i337_25 (zr_1_3 i337_26 (zt_rfl))) ?_
    have hP : jP169 k S := ⟨jI_n (by omega) w.1, hx⟩
    refine zH_call (zs_21_1 i337_27 na_169 ob_0 rfl) (y169 k S hP) ?_
    have f := (show (A169 k S) = S 49 k.toNatClampNeg from z1.symm)
    generalize (A169 k S) = r2 at f ⊢
    have hr2 := f
    have hc : (r1 = r2) := hr1.trans hr2.symm
    refine zH_pre (zt_cast (zr_19_1 i337_28 (fun _ => zt_rfl) (fun _ => zt_rfl)) (if_pos hc)) ?_
    clear hc
    refine zH_pre (zr_2_0 i337_29 (zr_1_3 i337_30 (zt_rfl))) ?_
    have hP : jP168 k S := ⟨jI_n (by omega) w.1, hx⟩
    refine zH_call (zs_21_1 i337_31 na_168 ob_0 rfl) (y168 k S hP) ?_
    have f := (show (A168 k S) = S 49 k.toNatClampNeg from rfl)
    generalize (A168 k S) = r3 at f ⊢
    have hc : ¬ (r3 < 0) := by rw [f, zk_lt, jk_0]; omega
    refine zH_pre (zt_cast (zr_18_2 i337_32 (fun _ => zt_rfl) (fun _ => zt_rfl)) (if_neg hc)) ?_
    clear hc
    refine zH_pre (zr_0 i337_33 kc_1 (zr_17 i337_34 (zr_3_2 i337_36 (zr_5_3 i337_37 kc_1 (zr_17 i337_38 (zt_rfl)))))) ?_
    exact IH (by omega)
set_option maxRecDepth 100000 in
theorem q337al {L : Nat} {S : zS} {n : Nat} (hn : n < 490) (w : jLaw n S) (E : zH L 337 (41, [some (.inr (.inr 0)), some (.inr (.inr 13)), some (.inl 1), some (.inl 0)], [], S) (jQ (fun S1 => S1 = S))) : ∀ (r j : Nat), (j : Int) + r = 3 → zH L 337 (17, [some (.inr (.inr 0)), some (.inr (.inr 13)), some (.inl 1), some (.inl (Int32.ofNat j))], [], S) (jQ (fun S1 => S1 = S))
  | 0, j, hr => q337a _ hn w rfl (by omega) (fun hlt => absurd hlt (by omega)) E
  | r + 1, j, hr => q337a _ hn w rfl (by omega) (fun _ => by
      have := q337al (L := L) hn w E r (j + 1) (by omega)
      rw [← zk_add] at this
      exact this) E
set_option maxRecDepth 100000 in
theorem q337 {L : Nat} {S : zS} {n : Nat} (hn : n < 490) (w : jLaw n S) : ∃ S', zf L 337 [.inr (.inr 0), .inr (.inr 13)] S (.inl (some (.inl 1)), S', 0) ∧ S' = S := by
  refine zH_f (en_337 _ _) ?_
  have hT := rTok_0 (jI_Tok w.1)
  have hL := rLea_0 (jI_Lea w.1)
  have hnt := zk_nat hT.1
  have hnl := zk_nat hL.1
  have c8 := jcx8 w.2.1
  have h6 := rSea_0 (jI_Sea w.1)
  have e0 : ((0 : Nat) : Int) = 0 := rfl
  have hlast := q337al (L := L) (by omega) w (q337bl (by omega) w (q337cl (by omega) w (S 5 0).toNatClampNeg 0 (by omega)) (S 6 0).toNatClampNeg 0 (by omega)) 3 0 (by omega)
  refine zH_pre (zr_2_0 i337_0 (zt_rfl)) ?_
  have hP : jP135  S := jI_n (by omega) w.1
  refine zH_call (zs_21_0 i337_1 na_135 ob_0 rfl) (y135  S hP) ?_
  have f := (show (A135 S) = S 1 6 from rfl)
  generalize (A135 S) = r at f ⊢
  have hr := f
  refine zH_pre (zr_2_1 i337_2 (zr_0 i337_3 kc_8 (zr_8 i337_4 ar_13 (zx_9_8) kt_8 rfl (zr_0 i337_5 kc_1 (zt_rfl))))) ?_
  by_cases c1 : ((S 13 8) = 1)
  · refine zH_pre (zt_cast (zr_19_1 i337_6 (fun _ => zt_rfl) (fun _ => zt_rfl)) (if_pos c1)) ?_
    refine zH_pre (zr_0 i337_7 kc_1 (zr_17 i337_8 (zt_rfl))) ?_
    have hc : (r = 1) := by rw [hr, ← c8]; exact c1
    refine zH_pre (zt_cast (zr_19_1 i337_10 (fun _ => zt_rfl) (fun _ => zt_rfl)) (if_pos hc)) ?_
    clear hc
    refine zH_pre (zr_0 i337_11 kc_1 (zr_17 i337_12 (zr_3_2 i337_14 (zr_0 i337_15 kc_0 (zr_3_3 i337_16 (zt_rfl)))))) ?_
    exact hlast
  · refine zH_pre (zt_cast (zr_19_1 i337_6 (fun _ => zt_rfl) (fun _ => zt_rfl)) (if_neg c1)) ?_
    refine zH_pre (zr_0 i337_9 kc_0 (zt_rfl)) ?_
    have hc : (r = 0) := by rw [hr]; exact h6.resolve_right (fun e => c1 (c8.trans e))
    refine zH_pre (zt_cast (zr_19_1 i337_10 (fun _ => zt_rfl) (fun _ => zt_rfl)) (if_pos hc)) ?_
    clear hc
    refine zH_pre (zr_0 i337_11 kc_1 (zr_17 i337_12 (zr_3_2 i337_14 (zr_0 i337_15 kc_0 (zr_3_3 i337_16 (zt_rfl)))))) ?_
    exact hlast
