/-! single calls (wip/whole/gen/gen88.py) -/
theorem zyr30 {n : Nat} {S T : zS} (q1 : Int32) (q2 : Int32) (hn : n < 512) (h : zR n S T) : (zb ((¬ ((¬ (q1 < 0)) ∧ (¬ (215 < q1)))) ∨ (¬ ((¬ (q2 < 0)) ∧ (¬ (9999 < q2)))))) = (F350_0_148 q1 q2 S) ∧ ((F350_0_148 q1 q2 S) = 0 → ((G350_0_148 q1 q2 S) 148 0) = (F295 q1 q2 T)) := by
  have hQ := zR_Q h
  obtain ⟨e51, e53, e54, e52, hver, hnum, hst⟩ := zQ_Sto hQ
  by_cases hC : (((¬ (q1 < 0)) ∧ (¬ (216 ≤ q1))) ∧ ((¬ (q2 < 0)) ∧ (¬ (9999 < q2))))
  · have hg : (zb ((¬ ((¬ (q1 < 0)) ∧ (¬ (215 < q1)))) ∨ (¬ ((¬ (q2 < 0)) ∧ (¬ (9999 < q2)))))) = 0 := by rw [zb_0]; simp only [zk_lt, zk_le, zlt_m1, zlt_0, zlt_1, zlt_2, zlt_3, zlt_4, zlt_5, zlt_6, zlt_7, zlt_8, zlt_9, zlt_10, zlt_15, zlt_16, zlt_20, zlt_24, zlt_30, zlt_36, zlt_39, zlt_40, zlt_50, zlt_72, zlt_100, zlt_199, zlt_200, zlt_215, zlt_216, zlt_255, zlt_256, zlt_1000, zlt_9999, zlt_65535, zlt_1000000000] at hC ⊢; omega
    have e3 : F350_0_148 q1 q2 S = 0 := by unfold F350_0_148; rw [zb_0]; simp only [zk_lt, zk_le, zlt_m1, zlt_0, zlt_1, zlt_2, zlt_3, zlt_4, zlt_5, zlt_6, zlt_7, zlt_8, zlt_9, zlt_10, zlt_15, zlt_16, zlt_20, zlt_24, zlt_30, zlt_36, zlt_39, zlt_40, zlt_50, zlt_72, zlt_100, zlt_199, zlt_200, zlt_215, zlt_216, zlt_255, zlt_256, zlt_1000, zlt_9999, zlt_65535, zlt_1000000000] at hC ⊢; omega
    have e2 : G350_0_148 q1 q2 S = (z_up S 148 0 (if ((F107 q1 q2 S) = (-1)) then ((-1) : Int32) else (if ((S 54 (F107 q1 q2 S).toNatClampNeg) = 2) then ((-1) : Int32) else (S 53 (F107 q1 q2 S).toNatClampNeg)))) := by unfold G350_0_148; rw [if_pos hC]
    have e4 : F295 q1 q2 T = (if ((¬ ((if (q2 = 0) then ((T 88 q1.toNatClampNeg) : Int32) else q2) < 1)) ∧ ((¬ (((z_up T 13 0 0) 88 q1.toNatClampNeg) < (if (q2 = 0) then ((T 88 q1.toNatClampNeg) : Int32) else q2))) ∧ (¬ ((if (q2 = 0) then ((T 88 q1.toNatClampNeg) : Int32) else q2) ≤ (((z_up T 13 0 0) 88 q1.toNatClampNeg) - 4))))) then ((if ((T 91 ((4 * q1) + (zrem (if (q2 = 0) then ((T 88 q1.toNatClampNeg) : Int32) else q2) 4)).toNatClampNeg) = 2) then ((-1) : Int32) else (T 90 ((4 * q1) + (zrem (if (q2 = 0) then ((T 88 q1.toNatClampNeg) : Int32) else q2) 4)).toNatClampNeg)) : Int32) else (-1)) := by unfold F295; rw [hg, if_pos rfl]
    refine ⟨hg.trans e3.symm, fun _ => ?_⟩
    rw [e2, zup_s, e4]
    show (if ((F107 q1 q2 S) = (-1)) then ((-1) : Int32) else (if ((S 54 (F107 q1 q2 S).toNatClampNeg) = 2) then ((-1) : Int32) else (S 53 (F107 q1 q2 S).toNatClampNeg))) = (if ((¬ ((if (q2 = 0) then ((T 88 q1.toNatClampNeg) : Int32) else q2) < 1)) ∧ ((¬ (((z_up T 13 0 0) 88 q1.toNatClampNeg) < (if (q2 = 0) then ((T 88 q1.toNatClampNeg) : Int32) else q2))) ∧ (¬ ((if (q2 = 0) then ((T 88 q1.toNatClampNeg) : Int32) else q2) ≤ (((z_up T 13 0 0) 88 q1.toNatClampNeg) - 4))))) then ((if ((T 91 ((4 * q1) + (zrem (if (q2 = 0) then ((T 88 q1.toNatClampNeg) : Int32) else q2) 4)).toNatClampNeg) = 2) then ((-1) : Int32) else (T 90 ((4 * q1) + (zrem (if (q2 = 0) then ((T 88 q1.toNatClampNeg) : Int32) else q2) 4)).toNatClampNeg)) : Int32) else (-1))
    have hx : zx 216 q1 := by rw [zx_iff]; simp only [zk_lt, zk_le, zlt_m1, zlt_0, zlt_1, zlt_2, zlt_3, zlt_4, zlt_5, zlt_6, zlt_7, zlt_8, zlt_9, zlt_10, zlt_15, zlt_16, zlt_20, zlt_24, zlt_30, zlt_36, zlt_39, zlt_40, zlt_50, zlt_72, zlt_100, zlt_199, zlt_200, zlt_215, zlt_216, zlt_255, zlt_256, zlt_1000, zlt_9999, zlt_65535, zlt_1000000000] at hC; omega
    obtain ⟨k1, k2⟩ := z107 (b := q1) (c := q2) e51 hx
    rw [k1, show (z_up T 13 0 0) 88 q1.toNatClampNeg = T 88 q1.toNatClampNeg from zupci rfl]
    generalize (if (q2 = 0) then ((T 88 q1.toNatClampNeg) : Int32) else q2) = v at k1 k2 ⊢
    by_cases g : ((¬ (v < 1)) ∧ ((¬ ((T 88 q1.toNatClampNeg) < v)) ∧ (¬ (v ≤ ((T 88 q1.toNatClampNeg) - 4)))))
    · rw [if_pos g, if_pos g, if_neg (zx_m1 (k2 g).1), e54, e53]
    · rw [if_neg g, if_neg g, if_pos rfl]
  · have hF : F350_0_148 q1 q2 S = 1 := by unfold F350_0_148; exact (zb_01 _).resolve_left (by rw [zb_0]; simp only [zk_lt, zk_le, zlt_m1, zlt_0, zlt_1, zlt_2, zlt_3, zlt_4, zlt_5, zlt_6, zlt_7, zlt_8, zlt_9, zlt_10, zlt_15, zlt_16, zlt_20, zlt_24, zlt_30, zlt_36, zlt_39, zlt_40, zlt_50, zlt_72, zlt_100, zlt_199, zlt_200, zlt_215, zlt_216, zlt_255, zlt_256, zlt_1000, zlt_9999, zlt_65535, zlt_1000000000] at hC ⊢; omega)
    have hV : (zb ((¬ ((¬ (q1 < 0)) ∧ (¬ (215 < q1)))) ∨ (¬ ((¬ (q2 < 0)) ∧ (¬ (9999 < q2)))))) = 1 := (zb_01 _).resolve_left (by rw [zb_0]; simp only [zk_lt, zk_le, zlt_m1, zlt_0, zlt_1, zlt_2, zlt_3, zlt_4, zlt_5, zlt_6, zlt_7, zlt_8, zlt_9, zlt_10, zlt_15, zlt_16, zlt_20, zlt_24, zlt_30, zlt_36, zlt_39, zlt_40, zlt_50, zlt_72, zlt_100, zlt_199, zlt_200, zlt_215, zlt_216, zlt_255, zlt_256, zlt_1000, zlt_9999, zlt_65535, zlt_1000000000] at hC ⊢; omega)
    exact ⟨hV.trans hF.symm, fun e => absurd (hF.symm.trans e) (by decide)⟩
theorem zyr38 {n : Nat} {S T : zS} (q1 : Int32) (hn : n < 512) (h : zR n S T) : (zb (¬ ((¬ (q1 < 0)) ∧ (¬ (2 < q1))))) = (F358_0_148 q1 S) ∧ ((F358_0_148 q1 S) = 0 → ((G358_0_148 q1 S) 148 0) = (F281 q1 T)) := by
  have hQ := zR_Q h
  have hL := zQ_Lea hQ
  have s6 : S 6 0 = T 13 57 := hL.1
  have s43 : S 43 = T 122 := hL.2.2.2.1
  have s46 : S 46 = T 125 := hL.2.2.2.2.2.2.1
  have s50 : S 50 = T 129 := hL.2.2.2.2.2.2.2.2.2.2.1
  by_cases hC : ((¬ (q1 < 0)) ∧ (¬ (3 ≤ q1)))
  · have hg : (zb (¬ ((¬ (q1 < 0)) ∧ (¬ (2 < q1))))) = 0 := by rw [zb_0]; simp only [zk_lt, zk_le, zlt_m1, zlt_0, zlt_1, zlt_2, zlt_3, zlt_4, zlt_5, zlt_6, zlt_7, zlt_8, zlt_9, zlt_10, zlt_15, zlt_16, zlt_20, zlt_24, zlt_30, zlt_36, zlt_39, zlt_40, zlt_50, zlt_72, zlt_100, zlt_199, zlt_200, zlt_215, zlt_216, zlt_255, zlt_256, zlt_1000, zlt_9999, zlt_65535, zlt_1000000000] at hC ⊢; omega
    have e3 : F358_0_148 q1 S = 0 := by unfold F358_0_148; rw [zb_0]; simp only [zk_lt, zk_le, zlt_m1, zlt_0, zlt_1, zlt_2, zlt_3, zlt_4, zlt_5, zlt_6, zlt_7, zlt_8, zlt_9, zlt_10, zlt_15, zlt_16, zlt_20, zlt_24, zlt_30, zlt_36, zlt_39, zlt_40, zlt_50, zlt_72, zlt_100, zlt_199, zlt_200, zlt_215, zlt_216, zlt_255, zlt_256, zlt_1000, zlt_9999, zlt_65535, zlt_1000000000] at hC ⊢; omega
    have e2 : G358_0_148 q1 S = (z_up S 148 0 (K58_7_c2 q1 (S 50 q1.toNatClampNeg) 0 S)) := by unfold G358_0_148; rw [if_pos hC]
    have e4 : F281 q1 T = (K281_18_c2 q1 (T 129 q1.toNatClampNeg) 0 (z_up T 13 0 0)) := by unfold F281; rw [hg, if_pos rfl]
    refine ⟨hg.trans e3.symm, fun _ => ?_⟩
    rw [e2, zup_s, e4]
    show (K58_7_c2 q1 (S 50 q1.toNatClampNeg) 0 S) = (K281_18_c2 q1 (T 129 q1.toNatClampNeg) 0 (z_up T 13 0 0))
    unfold K58_7_c2 K58_7 K281_18_c2 K281_18
    rw [s6, s50, show (z_up T 13 0 0) 13 57 = T 13 57 from zupf rfl]
    refine zfold_rel (I := fun x y => x = y) rfl (fun j x y hj hI => ?_)
    subst hI
    unfold k58_7 k281_18
    rw [s43, s46, show (z_up T 13 0 0) 122 = T 122 from zupc rfl, show (z_up T 13 0 0) 125 = T 125 from zupc rfl]
    unfold zb
    by_cases c1 : T 122 (0 + j) = q1
    · by_cases c2 : T 125 (0 + j) = 2
      · rw [if_pos c1, if_pos c2, if_neg (fun q => q.2 c2), Int32.add_zero]
      · rw [if_pos c1, if_neg c2, if_pos ⟨c1, c2⟩]
    · rw [if_neg c1, if_neg (fun q => c1 q.1), Int32.add_zero]
  · have hF : F358_0_148 q1 S = 1 := by unfold F358_0_148; exact (zb_01 _).resolve_left (by rw [zb_0]; simp only [zk_lt, zk_le, zlt_m1, zlt_0, zlt_1, zlt_2, zlt_3, zlt_4, zlt_5, zlt_6, zlt_7, zlt_8, zlt_9, zlt_10, zlt_15, zlt_16, zlt_20, zlt_24, zlt_30, zlt_36, zlt_39, zlt_40, zlt_50, zlt_72, zlt_100, zlt_199, zlt_200, zlt_215, zlt_216, zlt_255, zlt_256, zlt_1000, zlt_9999, zlt_65535, zlt_1000000000] at hC ⊢; omega)
    have hV : (zb (¬ ((¬ (q1 < 0)) ∧ (¬ (2 < q1))))) = 1 := (zb_01 _).resolve_left (by rw [zb_0]; simp only [zk_lt, zk_le, zlt_m1, zlt_0, zlt_1, zlt_2, zlt_3, zlt_4, zlt_5, zlt_6, zlt_7, zlt_8, zlt_9, zlt_10, zlt_15, zlt_16, zlt_20, zlt_24, zlt_30, zlt_36, zlt_39, zlt_40, zlt_50, zlt_72, zlt_100, zlt_199, zlt_200, zlt_215, zlt_216, zlt_255, zlt_256, zlt_1000, zlt_9999, zlt_65535, zlt_1000000000] at hC ⊢; omega)
    exact ⟨hV.trans hF.symm, fun e => absurd (hF.symm.trans e) (by decide)⟩
theorem zin30 {m a : Int32} (hm : zn 30 m) : ((m - 1) < a) = (m ≤ a) := zt_le (zn_mono hm (by decide))
theorem zb_cg {P Q : Prop} [Decidable P] [Decidable Q] (h : P ↔ Q) : zb P = zb Q := by
  unfold zb
  by_cases hp : P
  · rw [if_pos hp, if_pos (h.mp hp)]
  · rw [if_neg hp, if_neg (fun q => hp (h.mpr q))]
theorem zyr47 {n : Nat} {S T : zS} (q1 : Int32) (hn : n < 512) (h : zR n S T) : (zb (¬ ((¬ (q1 < 0)) ∧ (¬ (((T 13 79) - 1) < q1))))) = (F365_0_148 q1 S) ∧ ((F365_0_148 q1 S) = 0 → ((G365_0_148 q1 S) 148 0) = (zb (((zb (¬ ((¬ (q1 < 0)) ∧ (¬ (((T 13 79) - 1) < q1))))) = 0) ∧ (¬ ((F308 q1 (z_up T 13 0 (zb (¬ ((¬ (q1 < 0)) ∧ (¬ (((T 13 79) - 1) < q1))))))) = 0))))) := by
  have hQ := zR_Q h
  have hC' := zQ_Cer hQ
  have s11 : S 11 0 = T 13 79 := hC'.1
  have hn30 := hC'.2.2.2.2.2.2.1
  by_cases hC : ((¬ (q1 < 0)) ∧ (¬ ((S 11 0) ≤ q1)))
  · have hg : (zb (¬ ((¬ (q1 < 0)) ∧ (¬ (((T 13 79) - 1) < q1))))) = 0 := by rw [zb_0]; simp only [zin30 hn30]; simp only [s11] at hC; simp only [zk_lt, zk_le, zlt_m1, zlt_0, zlt_1, zlt_2, zlt_3, zlt_4, zlt_5, zlt_6, zlt_7, zlt_8, zlt_9, zlt_10, zlt_15, zlt_16, zlt_20, zlt_24, zlt_30, zlt_36, zlt_39, zlt_40, zlt_50, zlt_72, zlt_100, zlt_199, zlt_200, zlt_215, zlt_216, zlt_255, zlt_256, zlt_1000, zlt_9999, zlt_65535, zlt_1000000000] at hC ⊢; omega
    have e3 : F365_0_148 q1 S = 0 := by unfold F365_0_148; rw [zb_0]; simp only [zk_lt, zk_le, zlt_m1, zlt_0, zlt_1, zlt_2, zlt_3, zlt_4, zlt_5, zlt_6, zlt_7, zlt_8, zlt_9, zlt_10, zlt_15, zlt_16, zlt_20, zlt_24, zlt_30, zlt_36, zlt_39, zlt_40, zlt_50, zlt_72, zlt_100, zlt_199, zlt_200, zlt_215, zlt_216, zlt_255, zlt_256, zlt_1000, zlt_9999, zlt_65535, zlt_1000000000] at hC ⊢; omega
    have e2 : G365_0_148 q1 S = (z_up S 148 0 (zb (¬ ((F7 q1 (S 0 11) S) = 0)))) := by unfold G365_0_148; rw [if_pos hC]
    refine ⟨hg.trans e3.symm, fun _ => ?_⟩
    rw [e2, zup_s, hg]
    show (zb (¬ ((F7 q1 (S 0 11) S) = 0))) = (zb ((0 = 0) ∧ (¬ ((F308 q1 (z_up T 13 0 0)) = 0))))
    have s0 : S 0 11 = (z_up T 13 0 0) 13 1 := (zQ_Key hQ).2.2.2.2.2.2.1.trans (zupf rfl).symm
    rw [s0, z7 (zQ_Cer (zQ_thr hQ 0)) q1]
    apply zb_cg
    exact ⟨fun q => ⟨rfl, q⟩, fun q => q.2⟩
  · have hF : F365_0_148 q1 S = 1 := by unfold F365_0_148; exact (zb_01 _).resolve_left (by rw [zb_0]; simp only [zk_lt, zk_le, zlt_m1, zlt_0, zlt_1, zlt_2, zlt_3, zlt_4, zlt_5, zlt_6, zlt_7, zlt_8, zlt_9, zlt_10, zlt_15, zlt_16, zlt_20, zlt_24, zlt_30, zlt_36, zlt_39, zlt_40, zlt_50, zlt_72, zlt_100, zlt_199, zlt_200, zlt_215, zlt_216, zlt_255, zlt_256, zlt_1000, zlt_9999, zlt_65535, zlt_1000000000] at hC ⊢; omega)
    have hV : (zb (¬ ((¬ (q1 < 0)) ∧ (¬ (((T 13 79) - 1) < q1))))) = 1 := (zb_01 _).resolve_left (by rw [zb_0]; simp only [zin30 hn30]; simp only [s11] at hC; simp only [zk_lt, zk_le, zlt_m1, zlt_0, zlt_1, zlt_2, zlt_3, zlt_4, zlt_5, zlt_6, zlt_7, zlt_8, zlt_9, zlt_10, zlt_15, zlt_16, zlt_20, zlt_24, zlt_30, zlt_36, zlt_39, zlt_40, zlt_50, zlt_72, zlt_100, zlt_199, zlt_200, zlt_215, zlt_216, zlt_255, zlt_256, zlt_1000, zlt_9999, zlt_65535, zlt_1000000000] at hC ⊢; omega)
    exact ⟨hV.trans hF.symm, fun e => absurd (hF.symm.trans e) (by decide)⟩
theorem z1079 {S T : zS} (e59 : S 59 = T 92) (b c : Int32) (hb : zx 216 b) : F107_9 b c S = (if ((¬ ((if (c = 0) then ((T 92 b.toNatClampNeg) : Int32) else c) < 1)) ∧ ((¬ ((T 92 b.toNatClampNeg) < (if (c = 0) then ((T 92 b.toNatClampNeg) : Int32) else c))) ∧ (¬ ((if (c = 0) then ((T 92 b.toNatClampNeg) : Int32) else c) ≤ ((T 92 b.toNatClampNeg) - 4))))) then ((4 * b) + (zrem (if (c = 0) then ((T 92 b.toNatClampNeg) : Int32) else c) 4)) else (-1)) ∧ (((¬ ((if (c = 0) then ((T 92 b.toNatClampNeg) : Int32) else c) < 1)) ∧ ((¬ ((T 92 b.toNatClampNeg) < (if (c = 0) then ((T 92 b.toNatClampNeg) : Int32) else c))) ∧ (¬ ((if (c = 0) then ((T 92 b.toNatClampNeg) : Int32) else c) ≤ ((T 92 b.toNatClampNeg) - 4))))) → zx 864 ((4 * b) + (zrem (if (c = 0) then ((T 92 b.toNatClampNeg) : Int32) else c) 4)) ∧ 1 ≤ (if (c = 0) then ((T 92 b.toNatClampNeg) : Int32) else c).toInt) := by
  unfold F107_9
  rw [e59]
  generalize (if (c = 0) then ((T 92 b.toNatClampNeg) : Int32) else c) = v
  have hv0 : (¬ v < 1) → 1 ≤ v.toInt := fun g => by rw [zk_lt, zlt_1] at g; omega
  refine ⟨?_, fun g => ⟨zx_slot' hb (zn_rem4 (by have := hv0 g.1; omega)), hv0 g.1⟩⟩
  by_cases g : ((¬ (v < 1)) ∧ ((¬ ((T 92 b.toNatClampNeg) < v)) ∧ (¬ (v ≤ ((T 92 b.toNatClampNeg) - 4)))))
  · rw [if_pos g, if_pos g, zfm_4 S (by have := hv0 g.1; omega), Int32.mul_comm]
  · rw [if_neg g, if_neg g]
theorem zdiv16 (x : Int32) : (x / 16 ≤ 0) = (x < 16) := by
  have hne : (16 : Int32) ≠ -1 := by decide
  have e : (x / 16).toInt = x.toInt.tdiv 16 := Int32.toInt_div_of_ne_right x 16 hne
  rw [zk_le, zk_lt, zlt_0, zlt_16, e]
  have h1 := Int.mul_tdiv_add_tmod x.toInt 16
  apply propext
  by_cases h : 0 ≤ x.toInt
  · rw [Int.tdiv_eq_ediv_of_nonneg h]
    constructor <;> intro h2 <;> omega
  · have h3 : x.toInt.tdiv 16 ≤ 0 := by
      have h4 : x.toInt.tdiv 16 = -((-x.toInt).tdiv 16) := by rw [Int.neg_tdiv, Int.neg_neg]
      rw [Int.tdiv_eq_ediv_of_nonneg (a := -x.toInt) (by omega)] at h4
      omega
    constructor <;> intro h2 <;> omega
theorem zyr52 {n : Nat} {S T : zS} (q1 : Int32) (q2 : Int32) (q3 : Int32) (hn : n < 512) (h : zR n S T) : (zb ((¬ ((¬ (q2 < 0)) ∧ (¬ (215 < q2)))) ∨ (¬ ((¬ (q3 < 0)) ∧ (¬ (9999 < q3)))))) = (F370_0_148 q1 q2 q3 S) ∧ ((F370_0_148 q1 q2 q3 S) = 0 → ((G370_0_148 q1 q2 q3 S) 148 0) = (F319 q1 q2 q3 T)) := by
  have hQ := zR_Q h
  have hQt := zQ_thr hQ 0
  have hT := zQ_Tok hQ
  have hn40 := hT.2.2.2.2.2.2.2.2.2.2.1
  have s40 : S 40 = T 119 := hT.2.2.2.2.2.2.2.2.2.1
  have h5 : S 5 0 = T 13 45 := hT.1
  obtain ⟨e59, e61, e62, e60, -⟩ := zQ_Far hQ
  have s23 : S 2 3 = T 13 18 := (zQ_Key hQ).2.2.2.1
  by_cases hC : (((¬ (q2 < 0)) ∧ (¬ (216 ≤ q2))) ∧ ((¬ (q3 < 0)) ∧ (¬ (9999 < q3))))
  · have hg : (zb ((¬ ((¬ (q2 < 0)) ∧ (¬ (215 < q2)))) ∨ (¬ ((¬ (q3 < 0)) ∧ (¬ (9999 < q3)))))) = 0 := by rw [zb_0]; simp only [zk_lt, zk_le, zlt_m1, zlt_0, zlt_1, zlt_2, zlt_3, zlt_4, zlt_5, zlt_6, zlt_7, zlt_8, zlt_9, zlt_10, zlt_15, zlt_16, zlt_20, zlt_24, zlt_30, zlt_36, zlt_39, zlt_40, zlt_50, zlt_72, zlt_100, zlt_199, zlt_200, zlt_215, zlt_216, zlt_255, zlt_256, zlt_1000, zlt_9999, zlt_65535, zlt_1000000000] at hC ⊢; omega
    have e3 : F370_0_148 q1 q2 q3 S = 0 := by unfold F370_0_148; rw [zb_0]; simp only [zk_lt, zk_le, zlt_m1, zlt_0, zlt_1, zlt_2, zlt_3, zlt_4, zlt_5, zlt_6, zlt_7, zlt_8, zlt_9, zlt_10, zlt_15, zlt_16, zlt_20, zlt_24, zlt_30, zlt_36, zlt_39, zlt_40, zlt_50, zlt_72, zlt_100, zlt_199, zlt_200, zlt_215, zlt_216, zlt_255, zlt_256, zlt_1000, zlt_9999, zlt_65535, zlt_1000000000] at hC ⊢; omega
    have e2 : G370_0_148 q1 q2 q3 S = (z_up S 148 0 (if ((¬ (q1 < 0)) ∧ (¬ ((S 5 0) ≤ q1))) then ((if ((S 40 q1.toNatClampNeg) = 0) then ((if (((F64 (S 33 q1.toNatClampNeg) (S 32 q1.toNatClampNeg) q2 S) &&& 1) = 0) then ((-6) : Int32) else (if ((F64 (S 33 q1.toNatClampNeg) (S 32 q1.toNatClampNeg) q2 S) < 16) then ((F110_9 q2 q3 (S 2 3) S) : Int32) else (-10))) : Int32) else (-4)) : Int32) else (-4))) := by unfold G370_0_148; rw [if_pos hC]
    have e4 : F319 q1 q2 q3 T = (if (((¬ (q1 < 0)) ∧ (¬ ((((z_up T 13 0 0) 13 45) - 1) < q1))) ∧ (((z_up T 13 0 0) 119 q1.toNatClampNeg) = 0)) then ((if (((if ((¬ (q1 < 0)) ∧ (¬ ((((z_up T 13 0 0) 13 45) - 1) < q1))) then ((F257 q1 q2 (z_up T 13 0 0)) : Int32) else 0) &&& 1) = 0) then ((if (((¬ (q1 < 0)) ∧ (¬ ((((z_up T 13 0 0) 13 45) - 1) < q1))) ∧ (((z_up T 13 0 0) 119 q1.toNatClampNeg) = 0)) then ((-6) : Int32) else (-4)) : Int32) else (if (((if ((¬ (q1 < 0)) ∧ (¬ ((((z_up T 13 0 0) 13 45) - 1) < q1))) then ((F257 q1 q2 (z_up T 13 0 0)) : Int32) else 0) / 16) ≤ 0) then ((if ((¬ ((if (q3 = 0) then ((T 92 q2.toNatClampNeg) : Int32) else q3) < 1)) ∧ ((¬ ((T 92 q2.toNatClampNeg) < (if (q3 = 0) then ((T 92 q2.toNatClampNeg) : Int32) else q3))) ∧ (¬ ((if (q3 = 0) then ((T 92 q2.toNatClampNeg) : Int32) else q3) ≤ ((T 92 q2.toNatClampNeg) - 4))))) then ((if ((T 95 ((4 * q2) + (zrem (if (q3 = 0) then ((T 92 q2.toNatClampNeg) : Int32) else q3) 4)).toNatClampNeg) = 0) then ((if ((T 13 18) ≤ (T 94 ((4 * q2) + (zrem (if (q3 = 0) then ((T 92 q2.toNatClampNeg) : Int32) else q3) 4)).toNatClampNeg)) then ((T 93 ((4 * q2) + (zrem (if (q3 = 0) then ((T 92 q2.toNatClampNeg) : Int32) else q3) 4)).toNatClampNeg) : Int32) else (-9)) : Int32) else (-7)) : Int32) else (-7)) : Int32) else (-10))) : Int32) else (if (((¬ (q1 < 0)) ∧ (¬ ((((z_up T 13 0 0) 13 45) - 1) < q1))) ∧ (((z_up T 13 0 0) 119 q1.toNatClampNeg) = 0)) then ((-6) : Int32) else (-4))) := by unfold F319; rw [hg, if_pos rfl]
    refine ⟨hg.trans e3.symm, fun _ => ?_⟩
    rw [e2, zup_s, e4]
    show (if ((¬ (q1 < 0)) ∧ (¬ ((S 5 0) ≤ q1))) then ((if ((S 40 q1.toNatClampNeg) = 0) then ((if (((F64 (S 33 q1.toNatClampNeg) (S 32 q1.toNatClampNeg) q2 S) &&& 1) = 0) then ((-6) : Int32) else (if ((F64 (S 33 q1.toNatClampNeg) (S 32 q1.toNatClampNeg) q2 S) < 16) then ((F110_9 q2 q3 (S 2 3) S) : Int32) else (-10))) : Int32) else (-4)) : Int32) else (-4)) = (if (((¬ (q1 < 0)) ∧ (¬ ((((z_up T 13 0 0) 13 45) - 1) < q1))) ∧ (((z_up T 13 0 0) 119 q1.toNatClampNeg) = 0)) then ((if (((if ((¬ (q1 < 0)) ∧ (¬ ((((z_up T 13 0 0) 13 45) - 1) < q1))) then ((F257 q1 q2 (z_up T 13 0 0)) : Int32) else 0) &&& 1) = 0) then ((if (((¬ (q1 < 0)) ∧ (¬ ((((z_up T 13 0 0) 13 45) - 1) < q1))) ∧ (((z_up T 13 0 0) 119 q1.toNatClampNeg) = 0)) then ((-6) : Int32) else (-4)) : Int32) else (if (((if ((¬ (q1 < 0)) ∧ (¬ ((((z_up T 13 0 0) 13 45) - 1) < q1))) then ((F257 q1 q2 (z_up T 13 0 0)) : Int32) else 0) / 16) ≤ 0) then ((if ((¬ ((if (q3 = 0) then ((T 92 q2.toNatClampNeg) : Int32) else q3) < 1)) ∧ ((¬ ((T 92 q2.toNatClampNeg) < (if (q3 = 0) then ((T 92 q2.toNatClampNeg) : Int32) else q3))) ∧ (¬ ((if (q3 = 0) then ((T 92 q2.toNatClampNeg) : Int32) else q3) ≤ ((T 92 q2.toNatClampNeg) - 4))))) then ((if ((T 95 ((4 * q2) + (zrem (if (q3 = 0) then ((T 92 q2.toNatClampNeg) : Int32) else q3) 4)).toNatClampNeg) = 0) then ((if ((T 13 18) ≤ (T 94 ((4 * q2) + (zrem (if (q3 = 0) then ((T 92 q2.toNatClampNeg) : Int32) else q3) 4)).toNatClampNeg)) then ((T 93 ((4 * q2) + (zrem (if (q3 = 0) then ((T 92 q2.toNatClampNeg) : Int32) else q3) 4)).toNatClampNeg) : Int32) else (-9)) : Int32) else (-7)) : Int32) else (-7)) : Int32) else (-10))) : Int32) else (if (((¬ (q1 < 0)) ∧ (¬ ((((z_up T 13 0 0) 13 45) - 1) < q1))) ∧ (((z_up T 13 0 0) 119 q1.toNatClampNeg) = 0)) then ((-6) : Int32) else (-4)))
    have hx : zx 216 q2 := by rw [zx_iff]; simp only [zk_lt, zk_le, zlt_m1, zlt_0, zlt_1, zlt_2, zlt_3, zlt_4, zlt_5, zlt_6, zlt_7, zlt_8, zlt_9, zlt_10, zlt_15, zlt_16, zlt_20, zlt_24, zlt_30, zlt_36, zlt_39, zlt_40, zlt_50, zlt_72, zlt_100, zlt_199, zlt_200, zlt_215, zlt_216, zlt_255, zlt_256, zlt_1000, zlt_9999, zlt_65535, zlt_1000000000] at hC; omega
    obtain ⟨k1, k2⟩ := z1079 (b := q2) (c := q3) e59 hx
    have t45 : (z_up T 13 0 0) 13 45 = T 13 45 := zupf rfl
    have t119 : (z_up T 13 0 0) 119 = T 119 := zupc rfl
    rw [t45, t119, h5, s40]
    simp only [zin hn40, zdiv16]
    rw [zri hQt q1 q2]
    unfold F110_9
    rw [k1, e62, e61, s23]
    generalize (if (q3 = 0) then ((T 92 q2.toNatClampNeg) : Int32) else q3) = v at k1 k2 ⊢
    generalize F64 (S 33 q1.toNatClampNeg) (S 32 q1.toNatClampNeg) q2 S = w
    by_cases g0 : (¬ (q1 < 0)) ∧ (¬ ((T 13 45) ≤ q1))
    rotate_left
    · simp only [if_neg g0, if_neg (fun q : ((¬ (q1 < 0)) ∧ (¬ ((T 13 45) ≤ q1))) ∧ (T 119 q1.toNatClampNeg = 0) => g0 q.1)]
    by_cases g1 : T 119 q1.toNatClampNeg = 0
    rotate_left
    · simp only [if_pos g0, if_neg g1, if_neg (fun q : ((¬ (q1 < 0)) ∧ (¬ ((T 13 45) ≤ q1))) ∧ (T 119 q1.toNatClampNeg = 0) => g1 q.2)]
    simp only [if_pos g0, if_pos g1, if_pos (⟨g0, g1⟩ : ((¬ (q1 < 0)) ∧ (¬ ((T 13 45) ≤ q1))) ∧ (T 119 q1.toNatClampNeg = 0))]
    by_cases g2 : (w &&& 1) = 0
    · rw [if_pos g2, if_pos g2]
    rw [if_neg g2, if_neg g2]
    by_cases g3 : w < 16
    rotate_left
    · rw [if_neg g3, if_neg g3]
    rw [if_pos g3, if_pos g3]
    by_cases g : ((¬ (v < 1)) ∧ ((¬ ((T 92 q2.toNatClampNeg) < v)) ∧ (¬ (v ≤ ((T 92 q2.toNatClampNeg) - 4)))))
    · simp only [if_pos g, if_neg (zx_m1 (k2 g).1)]
      by_cases g4 : T 95 ((4 * q2) + (zrem v 4)).toNatClampNeg = 0
      · rw [if_pos g4, if_pos g4, e60 _ (by rw [g4]; decide)]
      · rw [if_neg g4, if_neg g4]
    · simp only [if_neg g, if_true]
  · have hF : F370_0_148 q1 q2 q3 S = 1 := by unfold F370_0_148; exact (zb_01 _).resolve_left (by rw [zb_0]; simp only [zk_lt, zk_le, zlt_m1, zlt_0, zlt_1, zlt_2, zlt_3, zlt_4, zlt_5, zlt_6, zlt_7, zlt_8, zlt_9, zlt_10, zlt_15, zlt_16, zlt_20, zlt_24, zlt_30, zlt_36, zlt_39, zlt_40, zlt_50, zlt_72, zlt_100, zlt_199, zlt_200, zlt_215, zlt_216, zlt_255, zlt_256, zlt_1000, zlt_9999, zlt_65535, zlt_1000000000] at hC ⊢; omega)
    have hV : (zb ((¬ ((¬ (q2 < 0)) ∧ (¬ (215 < q2)))) ∨ (¬ ((¬ (q3 < 0)) ∧ (¬ (9999 < q3)))))) = 1 := (zb_01 _).resolve_left (by rw [zb_0]; simp only [zk_lt, zk_le, zlt_m1, zlt_0, zlt_1, zlt_2, zlt_3, zlt_4, zlt_5, zlt_6, zlt_7, zlt_8, zlt_9, zlt_10, zlt_15, zlt_16, zlt_20, zlt_24, zlt_30, zlt_36, zlt_39, zlt_40, zlt_50, zlt_72, zlt_100, zlt_199, zlt_200, zlt_215, zlt_216, zlt_255, zlt_256, zlt_1000, zlt_9999, zlt_65535, zlt_1000000000] at hC ⊢; omega)
    exact ⟨hV.trans hF.symm, fun e => absurd (hF.symm.trans e) (by decide)⟩
theorem zyr26 {n : Nat} {S T : zS} (q1 : Int32) (q2 : Int32) (hn : n < 512) (h : zR n S T) : (if ((¬ (q1 < 0)) ∧ (¬ (((T 13 45) - 1) < q1))) then ((if ((¬ (q2 < 0)) ∧ (¬ (215 < q2))) then (0 : Int32) else 2) : Int32) else 1) = (F346_0_148 q1 q2 S) ∧ ((F346_0_148 q1 q2 S) = 0 → ((G346_0_148 q1 q2 S) 148 0) = (F268 q1 q2 T)) := by
  have hQ := zR_Q h
  have hT := zQ_Tok hQ
  have hn40 := hT.2.2.2.2.2.2.2.2.2.2.1
  have h5 : S 5 0 = T 13 45 := hT.1
  have eb : (215 < q2) = (216 ≤ q2) := propext (by simp only [zk_lt, zk_le, zlt_m1, zlt_0, zlt_1, zlt_2, zlt_3, zlt_4, zlt_5, zlt_6, zlt_7, zlt_8, zlt_9, zlt_10, zlt_15, zlt_16, zlt_20, zlt_24, zlt_30, zlt_36, zlt_39, zlt_40, zlt_50, zlt_72, zlt_100, zlt_199, zlt_200, zlt_215, zlt_216, zlt_255, zlt_256, zlt_1000, zlt_9999, zlt_65535, zlt_1000000000]; omega)
  have eV : (if ((¬ (q1 < 0)) ∧ (¬ (((T 13 45) - 1) < q1))) then ((if ((¬ (q2 < 0)) ∧ (¬ (215 < q2))) then (0 : Int32) else 2) : Int32) else 1) = F346_0_148 q1 q2 S := by
    unfold F346_0_148
    simp only [zin hn40, h5, eb]
  refine ⟨eV, fun e => ?_⟩
  have eV0 := eV.trans e
  have g : ((¬ (q1 < 0)) ∧ (¬ ((S 5 0) ≤ q1))) ∧ ((¬ (q2 < 0)) ∧ (¬ (216 ≤ q2))) := by
    unfold F346_0_148 at e
    by_cases gA : ((¬ (q1 < 0)) ∧ (¬ ((S 5 0) ≤ q1)))
    · rw [if_pos gA] at e
      by_cases gB : ((¬ (q2 < 0)) ∧ (¬ (216 ≤ q2)))
      · exact ⟨gA, gB⟩
      · rw [if_neg gB] at e; exact absurd e (by decide)
    · rw [if_neg gA] at e; exact absurd e (by decide)
  unfold G346_0_148 F268
  rw [if_pos g.1, if_pos g.2, zup_s, eV0, if_pos rfl]
  exact (zri (zQ_thr hQ 0) q1 q2).symm
theorem zrq23 {n : Nat} {S T : zS} (q1 : Int32) (hn : n < 512) (h : zR n S T) : (((G265 q1 T) 13 0) = (F343_0_148 q1 S) ∧ ((F343_0_148 q1 S) = 0 → ((G343_0_148 q1 S) 148 0) = (F265 q1 T))) ∧ zR (n + 1) (G343_0_148 q1 S) (M23 q1 T) := by
  have hQ := zR_Q h
  have hT := zQ_Tok hQ
  have hn40 := hT.2.2.2.2.2.2.2.2.2.2.1
  have h5 : S 5 0 = T 13 45 := hT.1
  have eV : (zb (¬ ((¬ (q1 < 0)) ∧ (¬ (((T 13 45) - 1) < q1))))) = F343_0_148 q1 S := by
    unfold F343_0_148
    simp only [zin hn40, h5]
  unfold M23
  by_cases g : (¬ (q1 < 0)) ∧ (¬ ((S 5 0) ≤ q1))
  · have eF : F343_0_148 q1 S = 0 := by unfold F343_0_148; rw [zb_0]; exact fun q => q g
    have g2 := zin2 hn40 (h5 ▸ g)
    obtain ⟨w1, w2, w3⟩ := zdie (zQ_thr hQ 0) q1 g2.1 (by rw [show (z_up T 13 0 0) 13 45 = T 13 45 from zupf rfl]; exact g2.2.1)
    have hu := zU_thr (zR_Use h) 0
    have e1 : G265 q1 T = G264 q1 (z_up T 13 0 0) := by unfold G265; rw [eV, eF, if_pos rfl]
    have e4 : F265 q1 T = K264_18_c2 q1 (zb ((z_up T 13 0 0) 119 q1.toNatClampNeg = 0)) (q1 + 1).toNatClampNeg (z_up (z_up T 13 0 0) 119 q1.toNatClampNeg 1) := by unfold F265; rw [eV, eF, if_pos rfl]
    have e2 : G343_0_148 q1 S = z_up (G200 q1 S) 148 0 (if ((S 40 q1.toNatClampNeg) = 0) then ((K129_18_c2 q1 1 (q1 + 1).toNatClampNeg (z_up S 40 q1.toNatClampNeg 1)) : Int32) else 0) := by unfold G343_0_148; rw [if_pos g]
    rw [e1, e2, e4, eF]
    exact ⟨⟨((p_G264 _ _).2 13 0 rfl rfl).trans (zup_s _ _ _ _), fun _ => (zup_s _ _ _ _).trans w2⟩, zQ_R (zQ_out (zQ_up w1) _) (zU_out (w3 q1 (zUm_of hu q1) (Or.inr hu)) _)⟩
  · have eF : F343_0_148 q1 S = 1 := by unfold F343_0_148; exact (zb_01 _).resolve_left (by rw [zb_0]; exact fun q => q g)
    have e1 : G265 q1 T = z_up T 13 0 1 := by unfold G265; rw [eV, eF, if_neg (show ¬ ((1 : Int32) = 0) by decide)]
    have e2 : G343_0_148 q1 S = S := by unfold G343_0_148; rw [if_neg g]
    rw [e1, e2, eF]
    exact ⟨⟨zup_s _ _ _ _, fun e => absurd e (by decide)⟩, zQ_R (zQ_thr (zQ_up hQ) 1) (zU_thr (zR_Use h) 1)⟩
theorem zyr23 {n : Nat} {S T : zS} (q1 : Int32) (hn : n < 512) (h : zR n S T) : ((G265 q1 T) 13 0) = (F343_0_148 q1 S) ∧ ((F343_0_148 q1 S) = 0 → ((G343_0_148 q1 S) 148 0) = (F265 q1 T)) := (zrq23 q1 hn h).1
theorem zyt23_Tok {n : Nat} {S T : zS} (q1 : Int32) (hn : n < 512) (h : zR n S T) : zTok (G343_0_148 q1 S) (M23 q1 T) := zR_Tok (zrq23 q1 hn h).2
theorem zyt23_Lea {n : Nat} {S T : zS} (q1 : Int32) (hn : n < 512) (h : zR n S T) : zLea (G343_0_148 q1 S) (M23 q1 T) := zR_Lea (zrq23 q1 hn h).2
theorem zyt23_LT {n : Nat} {S T : zS} (q1 : Int32) (hn : n < 512) (h : zR n S T) : zLT (G343_0_148 q1 S) (M23 q1 T) := zR_LT (zrq23 q1 hn h).2
theorem zyt23_Use {n : Nat} {S T : zS} (q1 : Int32) (hn : n < 512) (h : zR n S T) : zUse (G343_0_148 q1 S) (M23 q1 T) := zR_Use (zrq23 q1 hn h).2
theorem zadd_zb (x : Int32) (P : Prop) [Decidable P] : (if P then (x + 1) else x) = x + zb P := by
  unfold zb
  by_cases hp : P
  · rw [if_pos hp, if_pos hp]
  · rw [if_neg hp, if_neg hp, Int32.add_zero]
theorem zrq46 {n : Nat} {S T : zS} (hn : n < 512) (h : zR n S T) : (K6_4_c2 (S 0 11) 0 0 S) = (K312_7_c1 0 0 (z_up T 13 0 0)) ∧ zCer (K6_4_S (S 0 11) 0 0 S) (M46 T) := by
  have hQ := zQ_thr (zR_Q h) 0
  have hC := zQ_Cer hQ
  have s0 : S 0 11 = T 13 1 := (zQ_Key (zR_Q h)).2.2.2.2.2.2.1
  unfold M46 K6_4_c2 K6_4_S K6_4 K312_7_c1 K312_7_S K312_7
  have t1 : (z_up T 13 0 0) 13 1 = T 13 1 := zupf rfl
  rw [hC.1, s0]
  generalize z_up T 13 0 0 = T1 at *
  have key := zfold_rel (f := k6_4 (T 13 1)) (f' := k312_7) (i := 0) (n := (T1 13 79).toNatClampNeg - 0) (a := ((0 : Int32), S)) (b := ((0 : Int32), T1)) (I := fun c d => c.1 = d.1 ∧ zCer c.2 d.2 ∧ d.2 13 1 = T 13 1) ⟨rfl, hC, t1⟩ (fun j c d hj hI => by
    obtain ⟨i1, i2, i3⟩ := hI
    have i2' := i2
    unfold zCer at i2
    obtain ⟨k0, k1, k2, k3, k4, k5, k6, k7, k8, k9, k10⟩ := i2
    unfold k6_4 k312_7
    dsimp only
    rw [k4, k2, i3, i1, zadd_zb]
    refine ⟨rfl, ?_, (zupci rfl).trans i3⟩
    unfold zCer
    simp only [zup2, zup1, k0, k1, k2, k3, k4, k5, Nat.reduceEqDiff, reduceIte, true_and, and_true, ite_true, ite_false]
    refine ⟨k6, k7, k8, k9, ?_⟩
    intro i
    split
    · exact zb_01 _
    · exact k10 i)
  exact ⟨key.1, key.2.1⟩
theorem zyr46 {n : Nat} {S T : zS} (hn : n < 512) (h : zR n S T) : (K6_4_c2 (S 0 11) 0 0 S) = (K312_7_c1 0 0 (z_up T 13 0 0)) := (zrq46 hn h).1
theorem zyt46_Cer {n : Nat} {S T : zS} (hn : n < 512) (h : zR n S T) : zCer (K6_4_S (S 0 11) 0 0 S) (M46  T) := (zrq46 hn h).2
