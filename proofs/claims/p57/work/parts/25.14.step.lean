/-! the law: 25.14.step (wip/p57/gen) -/
theorem ml_327 : z_ml 327 = 17 := by decide +kernel
theorem en_327 : ∀ (v0 v1 v2 v3 v4 v5 : zV), z_ent 327 [v0, v1, v2, v3, v4, v5] = [some v0, some v1, some v2, some v3, some v4, some v5, none, none, none, none, none, none, none, none, none, none, none] := fun v0 v1 v2 v3 v4 v5 => by unfold z_ent; rw [ml_327]; rfl
theorem i327_0 : zi 327 0 1 2 1 0 := by decide +kernel
theorem i327_1 : zi 327 1 2 0 0 1 := by decide +kernel
theorem i327_2 : zi 327 2 3 8 0 0 := by decide +kernel
theorem i327_3 : zi 327 3 4 18 6 1 := by decide +kernel
theorem i327_4 : zi 327 4 5 0 0 0 := by decide +kernel
theorem i327_5 : zi 327 5 6 17 11 0 := by decide +kernel
theorem i327_11 : zi 327 11 12 3 6 0 := by decide +kernel
theorem i327_12 : zi 327 12 13 1 5 0 := by decide +kernel
theorem i327_13 : zi 327 13 14 0 0 216 := by decide +kernel
theorem i327_14 : zi 327 14 15 13 4 0 := by decide +kernel
theorem i327_15 : zi 327 15 16 3 7 0 := by decide +kernel
theorem i327_16 : zi 327 16 17 1 4 0 := by decide +kernel
theorem i327_17 : zi 327 17 18 0 0 64 := by decide +kernel
theorem i327_18 : zi 327 18 19 13 3 0 := by decide +kernel
theorem i327_19 : zi 327 19 20 0 0 4 := by decide +kernel
theorem i327_20 : zi 327 20 21 13 4 0 := by decide +kernel
theorem i327_21 : zi 327 21 22 3 8 0 := by decide +kernel
theorem i327_22 : zi 327 22 23 1 3 0 := by decide +kernel
theorem i327_23 : zi 327 23 24 0 0 24 := by decide +kernel
theorem i327_24 : zi 327 24 25 13 4 0 := by decide +kernel
theorem nz_24 : ¬ (24 : Int32) = 0 := by decide
theorem i327_25 : zi 327 25 26 36 1 0 := by decide +kernel
theorem sw_1 : z_sw.getD 1 (0, []) = (502, [(0, 26), (1, 73), (2, 83), (3, 83), (4, 90), (5, 104), (6, 167), (7, 167), (8, 167), (9, 167), (10, 178), (11, 178), (12, 178), (13, 189), (14, 219), (15, 226), (16, 248), (17, 262), (18, 355), (19, 409), (20, 430), (21, 453), (22, 497)]) := by decide +kernel
theorem i327_6 : zi 327 6 7 1 4 0 := by decide +kernel
theorem i327_7 : zi 327 7 8 2 1 0 := by decide +kernel
theorem i327_8 : zi 327 8 9 0 0 1 := by decide +kernel
theorem i327_9 : zi 327 9 10 8 0 0 := by decide +kernel
theorem i327_10 : zi 327 10 11 13 4 0 := by decide +kernel

theorem zx_216r {c : Int32} (hc : 0 ≤ c.toInt) : zx 216 (zrem c 216) := by
  have h := jrem (x := c) (y := 216) hc (by decide)
  rw [jk_216] at h
  rw [zx_iff]; omega
set_option maxRecDepth 100000 in
theorem q327 {L : Nat} (a b c : Int32) {S : zS} {n : Nat} (hn : n < 480) (w : jLaw n S) (ha : 0 ≤ a.toInt) (hb : 0 ≤ b.toInt) (hc : 0 ≤ c.toInt) : ∃ S', zf L 327 [.inr (.inr 0), .inr (.inr 13), .inr (.inr 81), .inl a, .inl b, .inl c] S (.inl (some (.inl 1)), S', 0) ∧ jLaw (n + 6) S' := by
  refine zH_f (en_327 _ _ _ _ _ _) ?_
  have hp := zx_216r hc
  have hq := jrem (x := b / 64) (y := 4) (jdv hb (by decide)).1 (by decide)
  rw [jk_4] at hq
  have k1 := jcx1 w.2.1
  have hT := rTok_0 (jI_Tok w.1)
  unfold zn at hT
  refine zH_pre (zr_2_1 i327_0 (zr_0 i327_1 kc_1 (zr_8 i327_2 ar_13 (zx_9_1) kt_1 rfl (zt_rfl)))) ?_
  by_cases c1 : ((S 13 1) = 0)
  · refine zH_pre (zt_cast (zr_18_1 i327_3 (fun _ => zt_rfl) (fun _ => zt_rfl)) (if_pos c1)) ?_
    refine zH_pre (zr_0 i327_4 kc_0 (zr_17 i327_5 (zr_3_6 i327_11 (zr_1_5 i327_12 (zr_0 i327_13 kc_216 (zr_13_4 i327_14 nz_216 (zr_3_7 i327_15 (zr_1_4 i327_16 (zr_0 i327_17 kc_64 (zr_13_3 i327_18 nz_64 (zr_0 i327_19 kc_4 (zr_13_4 i327_20 nz_4 (zr_3_8 i327_21 (zr_1_3 i327_22 (zr_0 i327_23 kc_24 (zr_13_4 i327_24 nz_24 (zt_rfl))))))))))))))))) ?_
    exact zH_sw i327_25 sw_1 (q327_502 a b c 0 _ _ hn w hb hc (by unfold zn; decide) (fun e => absurd (k1.symm.trans c1) e) hp hq) (List.forall_mem_cons.mpr ⟨q327_26 a b c 0 _ _ hn w hb hc (by unfold zn; decide) (fun e => absurd (k1.symm.trans c1) e) hp hq, List.forall_mem_cons.mpr ⟨q327_73 a b c 0 _ _ hn w hb hc (by unfold zn; decide) (fun e => absurd (k1.symm.trans c1) e) hp hq, List.forall_mem_cons.mpr ⟨q327_83 a b c 0 _ _ hn w hb hc (by unfold zn; decide) (fun e => absurd (k1.symm.trans c1) e) hp hq, List.forall_mem_cons.mpr ⟨q327_83 a b c 0 _ _ hn w hb hc (by unfold zn; decide) (fun e => absurd (k1.symm.trans c1) e) hp hq, List.forall_mem_cons.mpr ⟨q327_90 a b c 0 _ _ hn w hb hc (by unfold zn; decide) (fun e => absurd (k1.symm.trans c1) e) hp hq, List.forall_mem_cons.mpr ⟨q327_104 a b c 0 _ _ hn w hb hc (by unfold zn; decide) (fun e => absurd (k1.symm.trans c1) e) hp hq, List.forall_mem_cons.mpr ⟨q327_167 a b c 0 _ _ hn w hb hc (by unfold zn; decide) (fun e => absurd (k1.symm.trans c1) e) hp hq, List.forall_mem_cons.mpr ⟨q327_167 a b c 0 _ _ hn w hb hc (by unfold zn; decide) (fun e => absurd (k1.symm.trans c1) e) hp hq, List.forall_mem_cons.mpr ⟨q327_167 a b c 0 _ _ hn w hb hc (by unfold zn; decide) (fun e => absurd (k1.symm.trans c1) e) hp hq, List.forall_mem_cons.mpr ⟨q327_167 a b c 0 _ _ hn w hb hc (by unfold zn; decide) (fun e => absurd (k1.symm.trans c1) e) hp hq, List.forall_mem_cons.mpr ⟨q327_178 a b c 0 _ _ hn w hb hc (by unfold zn; decide) (fun e => absurd (k1.symm.trans c1) e) hp hq, List.forall_mem_cons.mpr ⟨q327_178 a b c 0 _ _ hn w hb hc (by unfold zn; decide) (fun e => absurd (k1.symm.trans c1) e) hp hq, List.forall_mem_cons.mpr ⟨q327_178 a b c 0 _ _ hn w hb hc (by unfold zn; decide) (fun e => absurd (k1.symm.trans c1) e) hp hq, List.forall_mem_cons.mpr ⟨q327_189 a b c 0 _ _ hn w hb hc (by unfold zn; decide) (fun e => absurd (k1.symm.trans c1) e) hp hq, List.forall_mem_cons.mpr ⟨q327_219 a b c 0 _ _ hn w hb hc (by unfold zn; decide) (fun e => absurd (k1.symm.trans c1) e) hp hq, List.forall_mem_cons.mpr ⟨q327_226 a b c 0 _ _ hn w hb hc (by unfold zn; decide) (fun e => absurd (k1.symm.trans c1) e) hp hq, List.forall_mem_cons.mpr ⟨q327_248 a b c 0 _ _ hn w hb hc (by unfold zn; decide) (fun e => absurd (k1.symm.trans c1) e) hp hq, List.forall_mem_cons.mpr ⟨q327_262 a b c 0 _ _ hn w hb hc (by unfold zn; decide) (fun e => absurd (k1.symm.trans c1) e) hp hq, List.forall_mem_cons.mpr ⟨q327_355 a b c 0 _ _ hn w hb hc (by unfold zn; decide) (fun e => absurd (k1.symm.trans c1) e) hp hq, List.forall_mem_cons.mpr ⟨q327_409 a b c 0 _ _ hn w hb hc (by unfold zn; decide) (fun e => absurd (k1.symm.trans c1) e) hp hq, List.forall_mem_cons.mpr ⟨q327_430 a b c 0 _ _ hn w hb hc (by unfold zn; decide) (fun e => absurd (k1.symm.trans c1) e) hp hq, List.forall_mem_cons.mpr ⟨q327_453 a b c 0 _ _ hn w hb hc (by unfold zn; decide) (fun e => absurd (k1.symm.trans c1) e) hp hq, List.forall_mem_cons.mpr ⟨q327_497 a b c 0 _ _ hn w hb hc (by unfold zn; decide) (fun e => absurd (k1.symm.trans c1) e) hp hq, fun _ hp => nomatch hp⟩⟩⟩⟩⟩⟩⟩⟩⟩⟩⟩⟩⟩⟩⟩⟩⟩⟩⟩⟩⟩⟩⟩)
  · refine zH_pre (zt_cast (zr_18_1 i327_3 (fun _ => zt_rfl) (fun _ => zt_rfl)) (if_neg c1)) ?_
    have hpos : 0 < (S 13 1).toInt := by have : ¬ (S 13 1).toInt = 0 := fun e => c1 (zk_eq.mpr e); rw [k1] at this ⊢; omega
    have ho := jrem (x := b) (y := S 13 1) hb hpos
    have ht : zn 39 (zrem b (S 13 1)) := by rw [k1] at ho ⊢; unfold zn; omega
    have g0 : (¬ ((S 13 1) = 0)) := c1
    refine zH_pre (zr_1_4 i327_6 (zr_2_1 i327_7 (zr_0 i327_8 kc_1 (zr_8 i327_9 ar_13 (zx_9_1) kt_1 rfl (zr_13_4 i327_10 (g0) (zr_3_6 i327_11 (zr_1_5 i327_12 (zr_0 i327_13 kc_216 (zr_13_4 i327_14 nz_216 (zr_3_7 i327_15 (zr_1_4 i327_16 (zr_0 i327_17 kc_64 (zr_13_3 i327_18 nz_64 (zr_0 i327_19 kc_4 (zr_13_4 i327_20 nz_4 (zr_3_8 i327_21 (zr_1_3 i327_22 (zr_0 i327_23 kc_24 (zr_13_4 i327_24 nz_24 (zt_rfl)))))))))))))))))))) ?_
    exact zH_sw i327_25 sw_1 (q327_502 a b c _ _ _ hn w hb hc ht (fun _ => by rw [k1] at ho ⊢; exact ho.2) hp hq) (List.forall_mem_cons.mpr ⟨q327_26 a b c _ _ _ hn w hb hc ht (fun _ => by rw [k1] at ho ⊢; exact ho.2) hp hq, List.forall_mem_cons.mpr ⟨q327_73 a b c _ _ _ hn w hb hc ht (fun _ => by rw [k1] at ho ⊢; exact ho.2) hp hq, List.forall_mem_cons.mpr ⟨q327_83 a b c _ _ _ hn w hb hc ht (fun _ => by rw [k1] at ho ⊢; exact ho.2) hp hq, List.forall_mem_cons.mpr ⟨q327_83 a b c _ _ _ hn w hb hc ht (fun _ => by rw [k1] at ho ⊢; exact ho.2) hp hq, List.forall_mem_cons.mpr ⟨q327_90 a b c _ _ _ hn w hb hc ht (fun _ => by rw [k1] at ho ⊢; exact ho.2) hp hq, List.forall_mem_cons.mpr ⟨q327_104 a b c _ _ _ hn w hb hc ht (fun _ => by rw [k1] at ho ⊢; exact ho.2) hp hq, List.forall_mem_cons.mpr ⟨q327_167 a b c _ _ _ hn w hb hc ht (fun _ => by rw [k1] at ho ⊢; exact ho.2) hp hq, List.forall_mem_cons.mpr ⟨q327_167 a b c _ _ _ hn w hb hc ht (fun _ => by rw [k1] at ho ⊢; exact ho.2) hp hq, List.forall_mem_cons.mpr ⟨q327_167 a b c _ _ _ hn w hb hc ht (fun _ => by rw [k1] at ho ⊢; exact ho.2) hp hq, List.forall_mem_cons.mpr ⟨q327_167 a b c _ _ _ hn w hb hc ht (fun _ => by rw [k1] at ho ⊢; exact ho.2) hp hq, List.forall_mem_cons.mpr ⟨q327_178 a b c _ _ _ hn w hb hc ht (fun _ => by rw [k1] at ho ⊢; exact ho.2) hp hq, List.forall_mem_cons.mpr ⟨q327_178 a b c _ _ _ hn w hb hc ht (fun _ => by rw [k1] at ho ⊢; exact ho.2) hp hq, List.forall_mem_cons.mpr ⟨q327_178 a b c _ _ _ hn w hb hc ht (fun _ => by rw [k1] at ho ⊢; exact ho.2) hp hq, List.forall_mem_cons.mpr ⟨q327_189 a b c _ _ _ hn w hb hc ht (fun _ => by rw [k1] at ho ⊢; exact ho.2) hp hq, List.forall_mem_cons.mpr ⟨q327_219 a b c _ _ _ hn w hb hc ht (fun _ => by rw [k1] at ho ⊢; exact ho.2) hp hq, List.forall_mem_cons.mpr ⟨q327_226 a b c _ _ _ hn w hb hc ht (fun _ => by rw [k1] at ho ⊢; exact ho.2) hp hq, List.forall_mem_cons.mpr ⟨q327_248 a b c _ _ _ hn w hb hc ht (fun _ => by rw [k1] at ho ⊢; exact ho.2) hp hq, List.forall_mem_cons.mpr ⟨q327_262 a b c _ _ _ hn w hb hc ht (fun _ => by rw [k1] at ho ⊢; exact ho.2) hp hq, List.forall_mem_cons.mpr ⟨q327_355 a b c _ _ _ hn w hb hc ht (fun _ => by rw [k1] at ho ⊢; exact ho.2) hp hq, List.forall_mem_cons.mpr ⟨q327_409 a b c _ _ _ hn w hb hc ht (fun _ => by rw [k1] at ho ⊢; exact ho.2) hp hq, List.forall_mem_cons.mpr ⟨q327_430 a b c _ _ _ hn w hb hc ht (fun _ => by rw [k1] at ho ⊢; exact ho.2) hp hq, List.forall_mem_cons.mpr ⟨q327_453 a b c _ _ _ hn w hb hc ht (fun _ => by rw [k1] at ho ⊢; exact ho.2) hp hq, List.forall_mem_cons.mpr ⟨q327_497 a b c _ _ _ hn w hb hc ht (fun _ => by rw [k1] at ho ⊢; exact ho.2) hp hq, fun _ hp => nomatch hp⟩⟩⟩⟩⟩⟩⟩⟩⟩⟩⟩⟩⟩⟩⟩⟩⟩⟩⟩⟩⟩⟩⟩)
