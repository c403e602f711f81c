/-! x -/
set_option maxHeartbeats 100000 in
set_option maxRecDepth 100000 in
theorem zyd9a (L : Nat) (x4 : Int32) (u5 u6 : Option zV) (kk : Int32) (S : zS) (q1 : Int32) (hx1 : zx L (x4 + 1)) (hq1 : S 1000 (x4 + 1).toNatClampNeg = q1) : zt L 372 295 [some (.inr (.inr 1000)), some (.inr (.inr 0)), some (.inr (.inr 13)), some (.inr (.inr 148)), some (.inl x4), u5, u6] [.inl kk] S (T9 x4 q1 u5 u6 kk S) := zr_3_5 i372_295 (zr_2_2 i372_296 (zr_2_0 i372_297 (zr_1_4 i372_298 (zr_0 i372_299 kc_1 (zr_13_0 i372_300 (zr_8v i372_301 hx1 hq1 (zr_cv (zs_21_1 i372_302 na_232 ob_13 rfl) (f232 q1 S ) sorry)))))))
set_option maxHeartbeats 100000 in
set_option maxRecDepth 100000 in
theorem zyd9b (L : Nat) (x4 : Int32) (u5 u6 : Option zV) (kk : Int32) (S : zS) (q1 : Int32) (hx1 : zx L (x4 + 1)) (hq1 : S 1000 (x4 + 1).toNatClampNeg = q1) : zt L 372 295 [some (.inr (.inr 1000)), some (.inr (.inr 0)), some (.inr (.inr 13)), some (.inr (.inr 148)), some (.inl x4), u5, u6] [.inl kk] S (T9 x4 q1 u5 u6 kk S) := zr_3_5 i372_295 (zr_2_2 i372_296 (zr_2_0 i372_297 (zr_1_4 i372_298 (zr_0 i372_299 kc_1 (zr_13_0 i372_300 (zr_8v i372_301 hx1 hq1 (zr_cv (zs_21_1 i372_302 na_232 ob_13 rfl) (f232 q1 S ) (zr_3_6 i372_303 (zr_2_2 i372_304 (zr_cv (zs_21_0 i372_305 na_211 ob_13 rfl) (f211  (G232 q1 S) ) sorry))))))))))
set_option maxHeartbeats 100000 in
set_option maxRecDepth 100000 in
theorem zyd9c (L : Nat) (x4 : Int32) (u5 u6 : Option zV) (kk : Int32) (S : zS) (q1 : Int32) (hx1 : zx L (x4 + 1)) (hq1 : S 1000 (x4 + 1).toNatClampNeg = q1) : zt L 372 295 [some (.inr (.inr 1000)), some (.inr (.inr 0)), some (.inr (.inr 13)), some (.inr (.inr 148)), some (.inl x4), u5, u6] [.inl kk] S (T9 x4 q1 u5 u6 kk S) := zr_3_5 i372_295 (zr_2_2 i372_296 (zr_2_0 i372_297 (zr_1_4 i372_298 (zr_0 i372_299 kc_1 (zr_13_0 i372_300 (zr_8v i372_301 hx1 hq1 (zr_cv (zs_21_1 i372_302 na_232 ob_13 rfl) (f232 q1 S ) (zr_3_6 i372_303 (zr_2_2 i372_304 (zr_cv (zs_21_0 i372_305 na_211 ob_13 rfl) (f211  (G232 q1 S) ) (zr_1_5 i372_306 (zr_19_0 i372_307 (fun h4808 => zr_1_5 i372_310 (zr_18_1 i372_311 (fun h4810 => zr_2_3 i372_312 (zr_0 i372_313 kc_0 sorry)) (fun h4811 => zr_17 i372_321 (zr_5_4 i372_2420 kc_9 (zr_17 i372_2421 (zt_rfl)))))) (fun h4809 => zr_0 i372_308 kc_0 (zr_26 i372_309 (zo_0)))))))))))))))
set_option maxHeartbeats 100000 in
set_option maxRecDepth 100000 in
theorem zyd9d (L : Nat) (x4 : Int32) (u5 u6 : Option zV) (kk : Int32) (S : zS) (q1 : Int32) (hx1 : zx L (x4 + 1)) (hq1 : S 1000 (x4 + 1).toNatClampNeg = q1) : zt L 372 295 [some (.inr (.inr 1000)), some (.inr (.inr 0)), some (.inr (.inr 13)), some (.inr (.inr 148)), some (.inl x4), u5, u6] [.inl kk] S (T9 x4 q1 u5 u6 kk S) := zr_3_5 i372_295 (zr_2_2 i372_296 (zr_2_0 i372_297 (zr_1_4 i372_298 (zr_0 i372_299 kc_1 (zr_13_0 i372_300 (zr_8v i372_301 hx1 hq1 (zr_cv (zs_21_1 i372_302 na_232 ob_13 rfl) (f232 q1 S ) (zr_3_6 i372_303 (zr_2_2 i372_304 (zr_cv (zs_21_0 i372_305 na_211 ob_13 rfl) (f211  (G232 q1 S) ) (zr_1_5 i372_306 (zr_19_0 i372_307 (fun h4808 => zr_1_5 i372_310 (zr_18_1 i372_311 (fun h4810 => zr_2_3 i372_312 (zr_0 i372_313 kc_0 (zr_37 i372_314 ar_148 (zx_1_0) kt_0 rfl sorry))) (fun h4811 => zr_17 i372_321 (zr_5_4 i372_2420 kc_9 (zr_17 i372_2421 (zt_rfl)))))) (fun h4809 => zr_0 i372_308 kc_0 (zr_26 i372_309 (zo_0)))))))))))))))
set_option maxHeartbeats 100000 in
set_option maxRecDepth 100000 in
theorem zyd9e (L : Nat) (x4 : Int32) (u5 u6 : Option zV) (kk : Int32) (S : zS) (q1 : Int32) (hx1 : zx L (x4 + 1)) (hq1 : S 1000 (x4 + 1).toNatClampNeg = q1) : zt L 372 295 [some (.inr (.inr 1000)), some (.inr (.inr 0)), some (.inr (.inr 13)), some (.inr (.inr 148)), some (.inl x4), u5, u6] [.inl kk] S (T9 x4 q1 u5 u6 kk S) := zr_3_5 i372_295 (zr_2_2 i372_296 (zr_2_0 i372_297 (zr_1_4 i372_298 (zr_0 i372_299 kc_1 (zr_13_0 i372_300 (zr_8v i372_301 hx1 hq1 (zr_cv (zs_21_1 i372_302 na_232 ob_13 rfl) (f232 q1 S ) (zr_3_6 i372_303 (zr_2_2 i372_304 (zr_cv (zs_21_0 i372_305 na_211 ob_13 rfl) (f211  (G232 q1 S) ) (zr_1_5 i372_306 (zr_19_0 i372_307 (fun h4808 => zr_1_5 i372_310 (zr_18_1 i372_311 (fun h4810 => zr_2_3 i372_312 (zr_0 i372_313 kc_0 (zr_37 i372_314 ar_148 (zx_1_0) kt_0 rfl (zr_1_6 i372_315 (zr_30 i372_316 sorry))))) (fun h4811 => zr_17 i372_321 (zr_5_4 i372_2420 kc_9 (zr_17 i372_2421 (zt_rfl)))))) (fun h4809 => zr_0 i372_308 kc_0 (zr_26 i372_309 (zo_0)))))))))))))))
set_option maxHeartbeats 100000 in
set_option maxRecDepth 100000 in
theorem zyd9f (L : Nat) (x4 : Int32) (u5 u6 : Option zV) (kk : Int32) (S : zS) (q1 : Int32) (hx1 : zx L (x4 + 1)) (hq1 : S 1000 (x4 + 1).toNatClampNeg = q1) : zt L 372 295 [some (.inr (.inr 1000)), some (.inr (.inr 0)), some (.inr (.inr 13)), some (.inr (.inr 148)), some (.inl x4), u5, u6] [.inl kk] S (T9 x4 q1 u5 u6 kk S) := zr_3_5 i372_295 (zr_2_2 i372_296 (zr_2_0 i372_297 (zr_1_4 i372_298 (zr_0 i372_299 kc_1 (zr_13_0 i372_300 (zr_8v i372_301 hx1 hq1 (zr_cv (zs_21_1 i372_302 na_232 ob_13 rfl) (f232 q1 S ) (zr_3_6 i372_303 (zr_2_2 i372_304 (zr_cv (zs_21_0 i372_305 na_211 ob_13 rfl) (f211  (G232 q1 S) ) (zr_1_5 i372_306 (zr_19_0 i372_307 (fun h4808 => zr_1_5 i372_310 (zr_18_1 i372_311 (fun h4810 => zr_2_3 i372_312 (zr_0 i372_313 kc_0 (zr_37 i372_314 ar_148 (zx_1_0) kt_0 rfl (zr_1_6 i372_315 (zr_30 i372_316 (zr_38 i372_317 (zr_18_0 i372_318 sorry (fun h4813 => zr_0 i372_319 kc_0 (zr_26 i372_320 (zo_0)))))))))) (fun h4811 => zr_17 i372_321 (zr_5_4 i372_2420 kc_9 (zr_17 i372_2421 (zt_rfl)))))) (fun h4809 => zr_0 i372_308 kc_0 (zr_26 i372_309 (zo_0)))))))))))))))
set_option maxHeartbeats 100000 in
set_option maxRecDepth 100000 in
theorem zyd9g (L : Nat) (x4 : Int32) (u5 u6 : Option zV) (kk : Int32) (S : zS) (q1 : Int32) (hx1 : zx L (x4 + 1)) (hq1 : S 1000 (x4 + 1).toNatClampNeg = q1) : zt L 372 295 [some (.inr (.inr 1000)), some (.inr (.inr 0)), some (.inr (.inr 13)), some (.inr (.inr 148)), some (.inl x4), u5, u6] [.inl kk] S (T9 x4 q1 u5 u6 kk S) := zr_3_5 i372_295 (zr_2_2 i372_296 (zr_2_0 i372_297 (zr_1_4 i372_298 (zr_0 i372_299 kc_1 (zr_13_0 i372_300 (zr_8v i372_301 hx1 hq1 (zr_cv (zs_21_1 i372_302 na_232 ob_13 rfl) (f232 q1 S ) (zr_3_6 i372_303 (zr_2_2 i372_304 (zr_cv (zs_21_0 i372_305 na_211 ob_13 rfl) (f211  (G232 q1 S) ) (zr_1_5 i372_306 (zr_19_0 i372_307 (fun h4808 => zr_1_5 i372_310 (zr_18_1 i372_311 (fun h4810 => zr_2_3 i372_312 (zr_0 i372_313 kc_0 (zr_37 i372_314 ar_148 (zx_1_0) kt_0 (Eq.refl ((G232 q1 S) 148 0)) (zr_1_6 i372_315 (zr_30 i372_316 (zr_38 i372_317 (zr_18_0 i372_318 (fun h4812 => zr_17 i372_321 (zr_5_4 i372_2420 kc_9 (zr_17 i372_2421 (zt_rfl)))) (fun h4813 => zr_0 i372_319 kc_0 (zr_26 i372_320 (zo_0)))))))))) (fun h4811 => zr_17 i372_321 (zr_5_4 i372_2420 kc_9 (zr_17 i372_2421 (zt_rfl)))))) (fun h4809 => zr_0 i372_308 kc_0 (zr_26 i372_309 (zo_0)))))))))))))))
set_option maxHeartbeats 100000 in
set_option maxRecDepth 100000 in
theorem zyd9h (L : Nat) (x4 : Int32) (u5 u6 : Option zV) (kk : Int32) (S : zS) (q1 : Int32) (hx1 : zx L (x4 + 1)) (hq1 : S 1000 (x4 + 1).toNatClampNeg = q1) : zt L 372 295 [some (.inr (.inr 1000)), some (.inr (.inr 0)), some (.inr (.inr 13)), some (.inr (.inr 148)), some (.inl x4), u5, u6] [.inl kk] S (T9 x4 q1 u5 u6 kk S) := zr_3_5 i372_295 (zr_2_2 i372_296 (zr_2_0 i372_297 (zr_1_4 i372_298 (zr_0 i372_299 kc_1 (zr_13_0 i372_300 (zr_8v i372_301 hx1 hq1 (zr_cv (zs_21_1 i372_302 na_232 ob_13 rfl) (f232 q1 S ) (zr_3_6 i372_303 (zr_2_2 i372_304 (zr_cv (zs_21_0 i372_305 na_211 ob_13 rfl) (f211  (G232 q1 S) ) (zr_1_5 i372_306 (zr_19_0 i372_307 (fun h4808 => zr_1_5 i372_310 (zr_18_1 i372_311 (fun h4810 => zr_2_3 i372_312 (zr_0 i372_313 kc_0 (zr_37 i372_314 ar_148 (zx_1_0) kt_0 (v := (G232 q1 S) 148 0) rfl (zr_1_6 i372_315 (zr_30 i372_316 (zr_38 i372_317 (zr_18_0 i372_318 (fun h4812 => zr_17 i372_321 (zr_5_4 i372_2420 kc_9 (zr_17 i372_2421 (zt_rfl)))) (fun h4813 => zr_0 i372_319 kc_0 (zr_26 i372_320 (zo_0)))))))))) (fun h4811 => zr_17 i372_321 (zr_5_4 i372_2420 kc_9 (zr_17 i372_2421 (zt_rfl)))))) (fun h4809 => zr_0 i372_308 kc_0 (zr_26 i372_309 (zo_0)))))))))))))))

/-! call 2: the class and the reference answer alike (wip/whole/man/02.txt) -/
set_option maxHeartbeats 200000 in
theorem zyr2 {n : Nat} {S T : zS} (q1 : Int32) (q2 : Int32) (h : zR n S T) : ((G223 q1 q2 T) 13 0) = (F326_0_148 q1 q2 S) ∧ ((F326_0_148 q1 q2 S) = 0 → ((G326_0_148 q1 q2 S) 148 0) = (F223 q1 q2 T)) := by
  have e9 := i_Seal_9 h
  have e11 := i_Seal_11 h
  have sf := fun a1 a2 a3 a4 => zSub_facts (q1 := q1) (q2 := q2) h a1 a2 a3 a4
  first
  | (simp only [F223, F326_0_148, F88, G223, G326_0_148, G88, zup2, zup1, zite2, zite1, upd_r, K95_1, K95_r, K214_1, K214_r, zcO_of, zgO_82, zCnt_82, q_1_0 h, q_1_1 h, q_1_2 h, q_1_6 h, ite_self, not_false_eq_true, not_true_eq_false, Nat.reduceEqDiff, reduceIte, true_and, and_true, false_and, and_false, ite_true, ite_false]; done)
  | (simp only [F223, F326_0_148, F88, G223, G326_0_148, G88, zup2, zup1, zite2, zite1, upd_r, K95_1, K95_r, K214_1, K214_r, zcO_of, zgO_82, zCnt_82, q_1_0 h, q_1_1 h, q_1_2 h, q_1_6 h, ite_self, not_false_eq_true, not_true_eq_false, Nat.reduceEqDiff, reduceIte, true_and, and_true, false_and, and_false, ite_true, ite_false]; grind [zb])
set_option maxHeartbeats 200000 in
theorem zyt2_Seal {n : Nat} {S T : zS} (q1 : Int32) (q2 : Int32) (hn : n < 512) (h : zR n S T) : zSeal (G326_0_148 q1 q2 S) (M2 q1 q2 T) := by
  have hr := zR_Seal h
  unfold zSeal at hr ⊢
  obtain ⟨h0, h1, h2, h3, h4, h5, h6, h7, h8, h9, h10, h11, h12, h13, h14, h15, h16, h17, h18, h19, h20⟩ := hr
  have hcl := zSeal_cl h
  have sf := fun a1 a2 a3 a4 => zSub_facts (q1 := q1) (q2 := q2) h a1 a2 a3 a4
  refine ⟨?_, ?_, ?_, ?_, ?_, ?_, ?_, ?_, ?_, ?_, ?_, ?_, ?_, ?_, ?_, ?_, ?_, ?_, ?_, ?_, ?_⟩
  · first
    | exact h0
    | (simp only [F223, F326_0_148, F88, G223, G326_0_148, G88, M2, zup2, zup1, zite2, zite1, upd_r, K95_1, K95_r, K214_1, K214_r, zcO_of, zgO_82, zCnt_82, (zSeal_cl h).1, (zSeal_cl h).2.1, (zSeal_cl h).2.2, q_1_0 h, q_1_1 h, q_1_2 h, q_1_6 h, q_1_7 h, q_1_8 h, q_1_9 h, q_1_10 h, q_14 h, ite_self, not_false_eq_true, not_true_eq_false, Nat.reduceEqDiff, reduceIte, true_and, and_true, false_and, and_false, ite_true, ite_false]; done)
    | (simp only [F223, F326_0_148, F88, G223, G326_0_148, G88, M2, zup2, zup1, zite2, zite1, upd_r, K95_1, K95_r, K214_1, K214_r, zcO_of, zgO_82, zCnt_82, (zSeal_cl h).1, (zSeal_cl h).2.1, (zSeal_cl h).2.2, q_1_0 h, q_1_1 h, q_1_2 h, q_1_6 h, q_1_7 h, q_1_8 h, q_1_9 h, q_1_10 h, q_14 h, ite_self, not_false_eq_true, not_true_eq_false, Nat.reduceEqDiff, reduceIte, true_and, and_true, false_and, and_false, ite_true, ite_false]; first | exact h0 | grind [zb] | (funext b; grind [zb]))
  · first
    | exact h1
    | (simp only [F223, F326_0_148, F88, G223, G326_0_148, G88, M2, zup2, zup1, zite2, zite1, upd_r, K95_1, K95_r, K214_1, K214_r, zcO_of, zgO_82, zCnt_82, (zSeal_cl h).1, (zSeal_cl h).2.1, (zSeal_cl h).2.2, q_1_0 h, q_1_1 h, q_1_2 h, q_1_6 h, q_1_7 h, q_1_8 h, q_1_9 h, q_1_10 h, q_14 h, ite_self, not_false_eq_true, not_true_eq_false, Nat.reduceEqDiff, reduceIte, true_and, and_true, false_and, and_false, ite_true, ite_false]; done)
    | (simp only [F223, F326_0_148, F88, G223, G326_0_148, G88, M2, zup2, zup1, zite2, zite1, upd_r, K95_1, K95_r, K214_1, K214_r, zcO_of, zgO_82, zCnt_82, (zSeal_cl h).1, (zSeal_cl h).2.1, (zSeal_cl h).2.2, q_1_0 h, q_1_1 h, q_1_2 h, q_1_6 h, q_1_7 h, q_1_8 h, q_1_9 h, q_1_10 h, q_14 h, ite_self, not_false_eq_true, not_true_eq_false, Nat.reduceEqDiff, reduceIte, true_and, and_true, false_and, and_false, ite_true, ite_false]; first | exact h1 | grind [zb] | (funext b; grind [zb]))
  · first
    | exact h2
    | (simp only [F223, F326_0_148, F88, G223, G326_0_148, G88, M2, zup2, zup1, zite2, zite1, upd_r, K95_1, K95_r, K214_1, K214_r, zcO_of, zgO_82, zCnt_82, (zSeal_cl h).1, (zSeal_cl h).2.1, (zSeal_cl h).2.2, q_1_0 h, q_1_1 h, q_1_2 h, q_1_6 h, q_1_7 h, q_1_8 h, q_1_9 h, q_1_10 h, q_14 h, ite_self, not_false_eq_true, not_true_eq_false, Nat.reduceEqDiff, reduceIte, true_and, and_true, false_and, and_false, ite_true, ite_false]; done)
    | (simp only [F223, F326_0_148, F88, G223, G326_0_148, G88, M2, zup2, zup1, zite2, zite1, upd_r, K95_1, K95_r, K214_1, K214_r, zcO_of, zgO_82, zCnt_82, (zSeal_cl h).1, (zSeal_cl h).2.1, (zSeal_cl h).2.2, q_1_0 h, q_1_1 h, q_1_2 h, q_1_6 h, q_1_7 h, q_1_8 h, q_1_9 h, q_1_10 h, q_14 h, ite_self, not_false_eq_true, not_true_eq_false, Nat.reduceEqDiff, reduceIte, true_and, and_true, false_and, and_false, ite_true, ite_false]; first | exact h2 | grind [zb] | (funext b; grind [zb]))
  · simp only [F223, F326_0_148, F88, G223, G326_0_148, G88, M2, zup2, zup1, zite2, zite1, upd_r, K95_1, K95_r, K214_1, K214_r, zcO_of, zgO_82, zCnt_82, (zSeal_cl h).1, (zSeal_cl h).2.1, (zSeal_cl h).2.2, q_1_0 h, q_1_1 h, q_1_2 h, q_1_6 h, q_1_7 h, q_1_8 h, q_1_9 h, q_1_10 h, q_14 h, ite_self, not_false_eq_true, not_true_eq_false, Nat.reduceEqDiff, reduceIte, true_and, and_true, false_and, and_false, ite_true, ite_false]
    clear h12 h14 h20; grind [zb]
  · first
    | exact h4
    | (simp only [F223, F326_0_148, F88, G223, G326_0_148, G88, M2, zup2, zup1, zite2, zite1, upd_r, K95_1, K95_r, K214_1, K214_r, zcO_of, zgO_82, zCnt_82, (zSeal_cl h).1, (zSeal_cl h).2.1, (zSeal_cl h).2.2, q_1_0 h, q_1_1 h, q_1_2 h, q_1_6 h, q_1_7 h, q_1_8 h, q_1_9 h, q_1_10 h, q_14 h, ite_self, not_false_eq_true, not_true_eq_false, Nat.reduceEqDiff, reduceIte, true_and, and_true, false_and, and_false, ite_true, ite_false]; done)
    | (simp only [F223, F326_0_148, F88, G223, G326_0_148, G88, M2, zup2, zup1, zite2, zite1, upd_r, K95_1, K95_r, K214_1, K214_r, zcO_of, zgO_82, zCnt_82, (zSeal_cl h).1, (zSeal_cl h).2.1, (zSeal_cl h).2.2, q_1_0 h, q_1_1 h, q_1_2 h, q_1_6 h, q_1_7 h, q_1_8 h, q_1_9 h, q_1_10 h, q_14 h, ite_self, not_false_eq_true, not_true_eq_false, Nat.reduceEqDiff, reduceIte, true_and, and_true, false_and, and_false, ite_true, ite_false]; first | exact h4 | grind [zb] | (funext b; grind [zb]))
  · first
    | exact h5
    | (simp only [F223, F326_0_148, F88, G223, G326_0_148, G88, M2, zup2, zup1, zite2, zite1, upd_r, K95_1, K95_r, K214_1, K214_r, zcO_of, zgO_82, zCnt_82, (zSeal_cl h).1, (zSeal_cl h).2.1, (zSeal_cl h).2.2, q_1_0 h, q_1_1 h, q_1_2 h, q_1_6 h, q_1_7 h, q_1_8 h, q_1_9 h, q_1_10 h, q_14 h, ite_self, not_false_eq_true, not_true_eq_false, Nat.reduceEqDiff, reduceIte, true_and, and_true, false_and, and_false, ite_true, ite_false]; done)
    | (simp only [F223, F326_0_148, F88, G223, G326_0_148, G88, M2, zup2, zup1, zite2, zite1, upd_r, K95_1, K95_r, K214_1, K214_r, zcO_of, zgO_82, zCnt_82, (zSeal_cl h).1, (zSeal_cl h).2.1, (zSeal_cl h).2.2, q_1_0 h, q_1_1 h, q_1_2 h, q_1_6 h, q_1_7 h, q_1_8 h, q_1_9 h, q_1_10 h, q_14 h, ite_self, not_false_eq_true, not_true_eq_false, Nat.reduceEqDiff, reduceIte, true_and, and_true, false_and, and_false, ite_true, ite_false]; first | exact h5 | grind [zb] | (funext b; grind [zb]))
  · first
    | exact h6
    | (simp only [F223, F326_0_148, F88, G223, G326_0_148, G88, M2, zup2, zup1, zite2, zite1, upd_r, K95_1, K95_r, K214_1, K214_r, zcO_of, zgO_82, zCnt_82, (zSeal_cl h).1, (zSeal_cl h).2.1, (zSeal_cl h).2.2, q_1_0 h, q_1_1 h, q_1_2 h, q_1_6 h, q_1_7 h, q_1_8 h, q_1_9 h, q_1_10 h, q_14 h, ite_self, not_false_eq_true, not_true_eq_false, Nat.reduceEqDiff, reduceIte, true_and, and_true, false_and, and_false, ite_true, ite_false]; done)
    | (simp only [F223, F326_0_148, F88, G223, G326_0_148, G88, M2, zup2, zup1, zite2, zite1, upd_r, K95_1, K95_r, K214_1, K214_r, zcO_of, zgO_82, zCnt_82, (zSeal_cl h).1, (zSeal_cl h).2.1, (zSeal_cl h).2.2, q_1_0 h, q_1_1 h, q_1_2 h, q_1_6 h, q_1_7 h, q_1_8 h, q_1_9 h, q_1_10 h, q_14 h, ite_self, not_false_eq_true, not_true_eq_false, Nat.reduceEqDiff, reduceIte, true_and, and_true, false_and, and_false, ite_true, ite_false]; first | exact h6 | grind [zb] | (funext b; grind [zb]))
  · first
    | exact h7
    | (simp only [F223, F326_0_148, F88, G223, G326_0_148, G88, M2, zup2, zup1, zite2, zite1, upd_r, K95_1, K95_r, K214_1, K214_r, zcO_of, zgO_82, zCnt_82, (zSeal_cl h).1, (zSeal_cl h).2.1, (zSeal_cl h).2.2, q_1_0 h, q_1_1 h, q_1_2 h, q_1_6 h, q_1_7 h, q_1_8 h, q_1_9 h, q_1_10 h, q_14 h, ite_self, not_false_eq_true, not_true_eq_false, Nat.reduceEqDiff, reduceIte, true_and, and_true, false_and, and_false, ite_true, ite_false]; done)
    | (simp only [F223, F326_0_148, F88, G223, G326_0_148, G88, M2, zup2, zup1, zite2, zite1, upd_r, K95_1, K95_r, K214_1, K214_r, zcO_of, zgO_82, zCnt_82, (zSeal_cl h).1, (zSeal_cl h).2.1, (zSeal_cl h).2.2, q_1_0 h, q_1_1 h, q_1_2 h, q_1_6 h, q_1_7 h, q_1_8 h, q_1_9 h, q_1_10 h, q_14 h, ite_self, not_false_eq_true, not_true_eq_false, Nat.reduceEqDiff, reduceIte, true_and, and_true, false_and, and_false, ite_true, ite_false]; first | exact h7 | grind [zb] | (funext b; grind [zb]))
  · first
    | exact h8
    | (simp only [F223, F326_0_148, F88, G223, G326_0_148, G88, M2, zup2, zup1, zite2, zite1, upd_r, K95_1, K95_r, K214_1, K214_r, zcO_of, zgO_82, zCnt_82, (zSeal_cl h).1, (zSeal_cl h).2.1, (zSeal_cl h).2.2, q_1_0 h, q_1_1 h, q_1_2 h, q_1_6 h, q_1_7 h, q_1_8 h, q_1_9 h, q_1_10 h, q_14 h, ite_self, not_false_eq_true, not_true_eq_false, Nat.reduceEqDiff, reduceIte, true_and, and_true, false_and, and_false, ite_true, ite_false]; done)
    | (simp only [F223, F326_0_148, F88, G223, G326_0_148, G88, M2, zup2, zup1, zite2, zite1, upd_r, K95_1, K95_r, K214_1, K214_r, zcO_of, zgO_82, zCnt_82, (zSeal_cl h).1, (zSeal_cl h).2.1, (zSeal_cl h).2.2, q_1_0 h, q_1_1 h, q_1_2 h, q_1_6 h, q_1_7 h, q_1_8 h, q_1_9 h, q_1_10 h, q_14 h, ite_self, not_false_eq_true, not_true_eq_false, Nat.reduceEqDiff, reduceIte, true_and, and_true, false_and, and_false, ite_true, ite_false]; first | exact h8 | grind [zb] | (funext b; grind [zb]))
  · simp only [F223, F326_0_148, F88, G223, G326_0_148, G88, M2, zup2, zup1, zite2, zite1, upd_r, K95_1, K95_r, K214_1, K214_r, zcO_of, zgO_82, zCnt_82, (zSeal_cl h).1, (zSeal_cl h).2.1, (zSeal_cl h).2.2, q_1_0 h, q_1_1 h, q_1_2 h, q_1_6 h, q_1_7 h, q_1_8 h, q_1_9 h, q_1_10 h, q_14 h, ite_self, not_false_eq_true, not_true_eq_false, Nat.reduceEqDiff, reduceIte, true_and, and_true, false_and, and_false, ite_true, ite_false]
    clear h12 h14 h20; grind [zb]
  · simp only [F223, F326_0_148, F88, G223, G326_0_148, G88, M2, zup2, zup1, zite2, zite1, upd_r, K95_1, K95_r, K214_1, K214_r, zcO_of, zgO_82, zCnt_82, (zSeal_cl h).1, (zSeal_cl h).2.1, (zSeal_cl h).2.2, q_1_0 h, q_1_1 h, q_1_2 h, q_1_6 h, q_1_7 h, q_1_8 h, q_1_9 h, q_1_10 h, q_14 h, ite_self, not_false_eq_true, not_true_eq_false, Nat.reduceEqDiff, reduceIte, true_and, and_true, false_and, and_false, ite_true, ite_false]
    clear h12 h14 h20; grind [zb]
  · simp only [F223, F326_0_148, F88, G223, G326_0_148, G88, M2, zup2, zup1, zite2, zite1, upd_r, K95_1, K95_r, K214_1, K214_r, zcO_of, zgO_82, zCnt_82, (zSeal_cl h).1, (zSeal_cl h).2.1, (zSeal_cl h).2.2, q_1_0 h, q_1_1 h, q_1_2 h, q_1_6 h, q_1_7 h, q_1_8 h, q_1_9 h, q_1_10 h, q_14 h, ite_self, not_false_eq_true, not_true_eq_false, Nat.reduceEqDiff, reduceIte, true_and, and_true, false_and, and_false, ite_true, ite_false]
    clear h12 h14 h20; grind [zb, zCnt_no]
  · simp only [F223, F326_0_148, F88, G223, G326_0_148, G88, M2, zup2, zup1, zite2, zite1, upd_r, K95_1, K95_r, K214_1, K214_r, zcO_of, zgO_82, zCnt_82, (zSeal_cl h).1, (zSeal_cl h).2.1, (zSeal_cl h).2.2, q_1_0 h, q_1_1 h, q_1_2 h, q_1_6 h, q_1_7 h, q_1_8 h, q_1_9 h, q_1_10 h, q_14 h, ite_self, not_false_eq_true, not_true_eq_false, Nat.reduceEqDiff, reduceIte, true_and, and_true, false_and, and_false, ite_true, ite_false]
    intro i hi; have := h12 i hi; clear h12 h14 h20; grind [zNo_lt, zcl_lt, zk_m1, zn]
  · simp only [F223, F326_0_148, F88, G223, G326_0_148, G88, M2, zup2, zup1, zite2, zite1, upd_r, K95_1, K95_r, K214_1, K214_r, zcO_of, zgO_82, zCnt_82, (zSeal_cl h).1, (zSeal_cl h).2.1, (zSeal_cl h).2.2, q_1_0 h, q_1_1 h, q_1_2 h, q_1_6 h, q_1_7 h, q_1_8 h, q_1_9 h, q_1_10 h, q_14 h, ite_self, not_false_eq_true, not_true_eq_false, Nat.reduceEqDiff, reduceIte, true_and, and_true, false_and, and_false, ite_true, ite_false]
    clear h12 h14 h20; grind [zNo_lt, zcl_lt]
  · simp only [F223, F326_0_148, F88, G223, G326_0_148, G88, M2, zup2, zup1, zite2, zite1, upd_r, K95_1, K95_r, K214_1, K214_r, zcO_of, zgO_82, zCnt_82, (zSeal_cl h).1, (zSeal_cl h).2.1, (zSeal_cl h).2.2, q_1_0 h, q_1_1 h, q_1_2 h, q_1_6 h, q_1_7 h, q_1_8 h, q_1_9 h, q_1_10 h, q_14 h, ite_self, not_false_eq_true, not_true_eq_false, Nat.reduceEqDiff, reduceIte, true_and, and_true, false_and, and_false, ite_true, ite_false]
    intro i hi; have := h14 i hi; clear h12 h14 h20; grind [zNo_lt, zcl_lt]
  · simp only [F223, F326_0_148, F88, G223, G326_0_148, G88, M2, zup2, zup1, zite2, zite1, upd_r, K95_1, K95_r, K214_1, K214_r, zcO_of, zgO_82, zCnt_82, (zSeal_cl h).1, (zSeal_cl h).2.1, (zSeal_cl h).2.2, q_1_0 h, q_1_1 h, q_1_2 h, q_1_6 h, q_1_7 h, q_1_8 h, q_1_9 h, q_1_10 h, q_14 h, ite_self, not_false_eq_true, not_true_eq_false, Nat.reduceEqDiff, reduceIte, true_and, and_true, false_and, and_false, ite_true, ite_false]
    clear h12 h14 h20; grind [zo, zb]
  · simp only [F223, F326_0_148, F88, G223, G326_0_148, G88, M2, zup2, zup1, zite2, zite1, upd_r, K95_1, K95_r, K214_1, K214_r, zcO_of, zgO_82, zCnt_82, (zSeal_cl h).1, (zSeal_cl h).2.1, (zSeal_cl h).2.2, q_1_0 h, q_1_1 h, q_1_2 h, q_1_6 h, q_1_7 h, q_1_8 h, q_1_9 h, q_1_10 h, q_14 h, ite_self, not_false_eq_true, not_true_eq_false, Nat.reduceEqDiff, reduceIte, true_and, and_true, false_and, and_false, ite_true, ite_false]
    clear h12 h14 h20; grind [zo, zb]
  · first
    | exact h17
    | (simp only [F223, F326_0_148, F88, G223, G326_0_148, G88, M2, zup2, zup1, zite2, zite1, upd_r, K95_1, K95_r, K214_1, K214_r, zcO_of, zgO_82, zCnt_82, (zSeal_cl h).1, (zSeal_cl h).2.1, (zSeal_cl h).2.2, q_1_0 h, q_1_1 h, q_1_2 h, q_1_6 h, q_1_7 h, q_1_8 h, q_1_9 h, q_1_10 h, q_14 h, ite_self, not_false_eq_true, not_true_eq_false, Nat.reduceEqDiff, reduceIte, true_and, and_true, false_and, and_false, ite_true, ite_false]; done)
    | (simp only [F223, F326_0_148, F88, G223, G326_0_148, G88, M2, zup2, zup1, zite2, zite1, upd_r, K95_1, K95_r, K214_1, K214_r, zcO_of, zgO_82, zCnt_82, (zSeal_cl h).1, (zSeal_cl h).2.1, (zSeal_cl h).2.2, q_1_0 h, q_1_1 h, q_1_2 h, q_1_6 h, q_1_7 h, q_1_8 h, q_1_9 h, q_1_10 h, q_14 h, ite_self, not_false_eq_true, not_true_eq_false, Nat.reduceEqDiff, reduceIte, true_and, and_true, false_and, and_false, ite_true, ite_false]; first | exact h17 | grind [zb] | (funext b; grind [zb]))
  · first
    | exact h18
    | (simp only [F223, F326_0_148, F88, G223, G326_0_148, G88, M2, zup2, zup1, zite2, zite1, upd_r, K95_1, K95_r, K214_1, K214_r, zcO_of, zgO_82, zCnt_82, (zSeal_cl h).1, (zSeal_cl h).2.1, (zSeal_cl h).2.2, q_1_0 h, q_1_1 h, q_1_2 h, q_1_6 h, q_1_7 h, q_1_8 h, q_1_9 h, q_1_10 h, q_14 h, ite_self, not_false_eq_true, not_true_eq_false, Nat.reduceEqDiff, reduceIte, true_and, and_true, false_and, and_false, ite_true, ite_false]; done)
    | (simp only [F223, F326_0_148, F88, G223, G326_0_148, G88, M2, zup2, zup1, zite2, zite1, upd_r, K95_1, K95_r, K214_1, K214_r, zcO_of, zgO_82, zCnt_82, (zSeal_cl h).1, (zSeal_cl h).2.1, (zSeal_cl h).2.2, q_1_0 h, q_1_1 h, q_1_2 h, q_1_6 h, q_1_7 h, q_1_8 h, q_1_9 h, q_1_10 h, q_14 h, ite_self, not_false_eq_true, not_true_eq_false, Nat.reduceEqDiff, reduceIte, true_and, and_true, false_and, and_false, ite_true, ite_false]; first | exact h18 | grind [zb] | (funext b; grind [zb]))
  · first
    | exact h19
    | (simp only [F223, F326_0_148, F88, G223, G326_0_148, G88, M2, zup2, zup1, zite2, zite1, upd_r, K95_1, K95_r, K214_1, K214_r, zcO_of, zgO_82, zCnt_82, (zSeal_cl h).1, (zSeal_cl h).2.1, (zSeal_cl h).2.2, q_1_0 h, q_1_1 h, q_1_2 h, q_1_6 h, q_1_7 h, q_1_8 h, q_1_9 h, q_1_10 h, q_14 h, ite_self, not_false_eq_true, not_true_eq_false, Nat.reduceEqDiff, reduceIte, true_and, and_true, false_and, and_false, ite_true, ite_false]; done)
    | (simp only [F223, F326_0_148, F88, G223, G326_0_148, G88, M2, zup2, zup1, zite2, zite1, upd_r, K95_1, K95_r, K214_1, K214_r, zcO_of, zgO_82, zCnt_82, (zSeal_cl h).1, (zSeal_cl h).2.1, (zSeal_cl h).2.2, q_1_0 h, q_1_1 h, q_1_2 h, q_1_6 h, q_1_7 h, q_1_8 h, q_1_9 h, q_1_10 h, q_14 h, ite_self, not_false_eq_true, not_true_eq_false, Nat.reduceEqDiff, reduceIte, true_and, and_true, false_and, and_false, ite_true, ite_false]; first | exact h19 | grind [zb] | (funext b; grind [zb]))
  · simp only [F223, F326_0_148, F88, G223, G326_0_148, G88, M2, zup2, zup1, zite2, zite1, upd_r, K95_1, K95_r, K214_1, K214_r, zcO_of, zgO_82, zCnt_82, (zSeal_cl h).1, (zSeal_cl h).2.1, (zSeal_cl h).2.2, q_1_0 h, q_1_1 h, q_1_2 h, q_1_6 h, q_1_7 h, q_1_8 h, q_1_9 h, q_1_10 h, q_14 h, ite_self, not_false_eq_true, not_true_eq_false, Nat.reduceEqDiff, reduceIte, true_and, and_true, false_and, and_false, ite_true, ite_false]
    intro i hi; have := h20 i hi; clear h12 h14 h20; grind [zNo_ge, zcl_ge, upd_r]

/-! call 17: the class and the reference answer alike (wip/whole/man/17.txt) -/
set_option maxHeartbeats 200000 in
theorem zyr17 {n : Nat} {S T : zS} (q1 : Int32) (q2 : Int32) (q3 : Int32) (h : zR n S T) : ((G248 q1 q2 q3 T) 13 0) = (F337_0_148 q1 q2 q3 S) ∧ ((F337_0_148 q1 q2 q3 S) = 0 → ((G337_0_148 q1 q2 q3 S) 148 0) = (F248 q1 q2 q3 T)) := by
  first
  | (simp only [F248, F337_0_148, G248, G337_0_148, zup2, zup1, zite2, zite1, upd_r, Int32.mul_comm 6 q1, zb_0, Decidable.not_not, q_24 h, ite_self, not_false_eq_true, not_true_eq_false, Nat.reduceEqDiff, reduceIte, true_and, and_true, false_and, and_false, ite_true, ite_false]; done)
  | (simp only [F248, F337_0_148, G248, G337_0_148, zup2, zup1, zite2, zite1, upd_r, Int32.mul_comm 6 q1, zb_0, Decidable.not_not, q_24 h, ite_self, not_false_eq_true, not_true_eq_false, Nat.reduceEqDiff, reduceIte, true_and, and_true, false_and, and_false, ite_true, ite_false]; grind [zb])
set_option maxHeartbeats 200000 in
theorem zyt17_Ppl {n : Nat} {S T : zS} (q1 : Int32) (q2 : Int32) (q3 : Int32) (hn : n < 512) (h : zR n S T) : zPpl (G337_0_148 q1 q2 q3 S) (M17 q1 q2 q3 T) := by
  have hr := zR_Ppl h
  unfold zPpl at hr ⊢
  obtain ⟨h0, h1, h2, h3, h4, h5, h6⟩ := hr
  refine ⟨?_, ?_, ?_, ?_, ?_, ?_, ?_⟩
  · first
    | exact h0
    | (simp only [F248, F337_0_148, G248, G337_0_148, M17, zup2, zup1, zite2, zite1, upd_r, Int32.mul_comm 6 q1, zb_0, Decidable.not_not, q_24 h, q_25 h, q_26 h, q_27 h, q_28 h, q_29 h, ite_self, not_false_eq_true, not_true_eq_false, Nat.reduceEqDiff, reduceIte, true_and, and_true, false_and, and_false, ite_true, ite_false]; done)
    | (simp only [F248, F337_0_148, G248, G337_0_148, M17, zup2, zup1, zite2, zite1, upd_r, Int32.mul_comm 6 q1, zb_0, Decidable.not_not, q_24 h, q_25 h, q_26 h, q_27 h, q_28 h, q_29 h, ite_self, not_false_eq_true, not_true_eq_false, Nat.reduceEqDiff, reduceIte, true_and, and_true, false_and, and_false, ite_true, ite_false]; first | exact h0 | grind [zb] | (funext b; grind [zb]))
  · first
    | exact h1
    | (simp only [F248, F337_0_148, G248, G337_0_148, M17, zup2, zup1, zite2, zite1, upd_r, Int32.mul_comm 6 q1, zb_0, Decidable.not_not, q_24 h, q_25 h, q_26 h, q_27 h, q_28 h, q_29 h, ite_self, not_false_eq_true, not_true_eq_false, Nat.reduceEqDiff, reduceIte, true_and, and_true, false_and, and_false, ite_true, ite_false]; done)
    | (simp only [F248, F337_0_148, G248, G337_0_148, M17, zup2, zup1, zite2, zite1, upd_r, Int32.mul_comm 6 q1, zb_0, Decidable.not_not, q_24 h, q_25 h, q_26 h, q_27 h, q_28 h, q_29 h, ite_self, not_false_eq_true, not_true_eq_false, Nat.reduceEqDiff, reduceIte, true_and, and_true, false_and, and_false, ite_true, ite_false]; first | exact h1 | grind [zb] | (funext b; grind [zb]))
  · first
    | exact h2
    | (simp only [F248, F337_0_148, G248, G337_0_148, M17, zup2, zup1, zite2, zite1, upd_r, Int32.mul_comm 6 q1, zb_0, Decidable.not_not, q_24 h, q_25 h, q_26 h, q_27 h, q_28 h, q_29 h, ite_self, not_false_eq_true, not_true_eq_false, Nat.reduceEqDiff, reduceIte, true_and, and_true, false_and, and_false, ite_true, ite_false]; done)
    | (simp only [F248, F337_0_148, G248, G337_0_148, M17, zup2, zup1, zite2, zite1, upd_r, Int32.mul_comm 6 q1, zb_0, Decidable.not_not, q_24 h, q_25 h, q_26 h, q_27 h, q_28 h, q_29 h, ite_self, not_false_eq_true, not_true_eq_false, Nat.reduceEqDiff, reduceIte, true_and, and_true, false_and, and_false, ite_true, ite_false]; first | exact h2 | grind [zb] | (funext b; grind [zb]))
  · first
    | exact h3
    | (simp only [F248, F337_0_148, G248, G337_0_148, M17, zup2, zup1, zite2, zite1, upd_r, Int32.mul_comm 6 q1, zb_0, Decidable.not_not, q_24 h, q_25 h, q_26 h, q_27 h, q_28 h, q_29 h, ite_self, not_false_eq_true, not_true_eq_false, Nat.reduceEqDiff, reduceIte, true_and, and_true, false_and, and_false, ite_true, ite_false]; done)
    | (simp only [F248, F337_0_148, G248, G337_0_148, M17, zup2, zup1, zite2, zite1, upd_r, Int32.mul_comm 6 q1, zb_0, Decidable.not_not, q_24 h, q_25 h, q_26 h, q_27 h, q_28 h, q_29 h, ite_self, not_false_eq_true, not_true_eq_false, Nat.reduceEqDiff, reduceIte, true_and, and_true, false_and, and_false, ite_true, ite_false]; first | exact h3 | grind [zb] | (funext b; grind [zb]))
  · first
    | exact h4
    | (simp only [F248, F337_0_148, G248, G337_0_148, M17, zup2, zup1, zite2, zite1, upd_r, Int32.mul_comm 6 q1, zb_0, Decidable.not_not, q_24 h, q_25 h, q_26 h, q_27 h, q_28 h, q_29 h, ite_self, not_false_eq_true, not_true_eq_false, Nat.reduceEqDiff, reduceIte, true_and, and_true, false_and, and_false, ite_true, ite_false]; done)
    | (simp only [F248, F337_0_148, G248, G337_0_148, M17, zup2, zup1, zite2, zite1, upd_r, Int32.mul_comm 6 q1, zb_0, Decidable.not_not, q_24 h, q_25 h, q_26 h, q_27 h, q_28 h, q_29 h, ite_self, not_false_eq_true, not_true_eq_false, Nat.reduceEqDiff, reduceIte, true_and, and_true, false_and, and_false, ite_true, ite_false]; first | exact h4 | grind [zb] | (funext b; grind [zb]))
  · first
    | exact h5
    | (simp only [F248, F337_0_148, G248, G337_0_148, M17, zup2, zup1, zite2, zite1, upd_r, Int32.mul_comm 6 q1, zb_0, Decidable.not_not, q_24 h, q_25 h, q_26 h, q_27 h, q_28 h, q_29 h, ite_self, not_false_eq_true, not_true_eq_false, Nat.reduceEqDiff, reduceIte, true_and, and_true, false_and, and_false, ite_true, ite_false]; done)
    | (simp only [F248, F337_0_148, G248, G337_0_148, M17, zup2, zup1, zite2, zite1, upd_r, Int32.mul_comm 6 q1, zb_0, Decidable.not_not, q_24 h, q_25 h, q_26 h, q_27 h, q_28 h, q_29 h, ite_self, not_false_eq_true, not_true_eq_false, Nat.reduceEqDiff, reduceIte, true_and, and_true, false_and, and_false, ite_true, ite_false]; first | exact h5 | grind [zb] | (funext b; grind [zb]))
  · simp only [F248, F337_0_148, G248, G337_0_148, M17, zup2, zup1, zite2, zite1, upd_r, Int32.mul_comm 6 q1, zb_0, Decidable.not_not, q_24 h, q_25 h, q_26 h, q_27 h, q_28 h, q_29 h, ite_self, not_false_eq_true, not_true_eq_false, Nat.reduceEqDiff, reduceIte, true_and, and_true, false_and, and_false, ite_true, ite_false]
    intro j hj; have hk := h6 j hj; clear h6; simp only [zk_lt, zk_le, zlt_m1, zlt_0, zlt_1, zlt_2, zlt_3, zlt_4, zlt_5, zlt_6, zlt_7, zlt_8, zlt_9, zlt_10, zlt_15, zlt_16, zlt_20, zlt_24, zlt_30, zlt_36, zlt_39, zlt_40, zlt_50, zlt_72, zlt_100, zlt_199, zlt_200, zlt_215, zlt_216, zlt_255, zlt_256, zlt_1000, zlt_9999, zlt_65535, zlt_1000000000]; grind [zb, zlt_m1]

/-! call 19: the class and the reference answer alike (wip/whole/man/19.txt) -/
set_option maxHeartbeats 200000 in
theorem zyr19 {n : Nat} {S T : zS} (q1 : Int32) (q2 : Int32) (q3 : Int32) (q4 : Int32) (h : zR n S T) : ((G250 q1 (zb (¬ (q2 = 0))) q3 (zb (¬ (q4 = 0))) T) 13 0) = (F339_0_148 q1 (zb (¬ (q2 = 0))) q3 (zb (¬ (q4 = 0))) S) ∧ ((F339_0_148 q1 (zb (¬ (q2 = 0))) q3 (zb (¬ (q4 = 0))) S) = 0 → ((G339_0_148 q1 (zb (¬ (q2 = 0))) q3 (zb (¬ (q4 = 0))) S) 148 0) = (zb (¬ ((F250 q1 (zb (¬ (q2 = 0))) q3 (zb (¬ (q4 = 0))) T) = 0)))) := by
  have hb := zbit_set
  have h0 := zor_0
  first
  | (simp only [F250, F339_0_148, G250, G339_0_148, zup2, zup1, zite2, zite1, upd_r, q_28 h, q_29 h, ite_self, not_false_eq_true, not_true_eq_false, Nat.reduceEqDiff, reduceIte, true_and, and_true, false_and, and_false, ite_true, ite_false]; done)
  | (simp only [F250, F339_0_148, G250, G339_0_148, zup2, zup1, zite2, zite1, upd_r, q_28 h, q_29 h, ite_self, not_false_eq_true, not_true_eq_false, Nat.reduceEqDiff, reduceIte, true_and, and_true, false_and, and_false, ite_true, ite_false]; grind [zb])
set_option maxHeartbeats 200000 in
theorem zyt19_Ppl {n : Nat} {S T : zS} (q1 : Int32) (q2 : Int32) (q3 : Int32) (q4 : Int32) (hn : n < 512) (h : zR n S T) : zPpl (G339_0_148 q1 (zb (¬ (q2 = 0))) q3 (zb (¬ (q4 = 0))) S) (M19 q1 q2 q3 q4 T) := by
  have hr := zR_Ppl h
  unfold zPpl at hr ⊢
  obtain ⟨h0, h1, h2, h3, h4, h5, h6⟩ := hr
  have hb := zbit_set
  have h0' := zor_0
  refine ⟨?_, ?_, ?_, ?_, ?_, ?_, ?_⟩
  · first
    | exact h0
    | (simp only [F250, F339_0_148, G250, G339_0_148, M19, zup2, zup1, zite2, zite1, upd_r, q_24 h, q_25 h, q_26 h, q_27 h, q_28 h, q_29 h, ite_self, not_false_eq_true, not_true_eq_false, Nat.reduceEqDiff, reduceIte, true_and, and_true, false_and, and_false, ite_true, ite_false]; done)
    | (simp only [F250, F339_0_148, G250, G339_0_148, M19, zup2, zup1, zite2, zite1, upd_r, q_24 h, q_25 h, q_26 h, q_27 h, q_28 h, q_29 h, ite_self, not_false_eq_true, not_true_eq_false, Nat.reduceEqDiff, reduceIte, true_and, and_true, false_and, and_false, ite_true, ite_false]; first | exact h0 | grind [zb] | (funext b; grind [zb]))
  · first
    | exact h1
    | (simp only [F250, F339_0_148, G250, G339_0_148, M19, zup2, zup1, zite2, zite1, upd_r, q_24 h, q_25 h, q_26 h, q_27 h, q_28 h, q_29 h, ite_self, not_false_eq_true, not_true_eq_false, Nat.reduceEqDiff, reduceIte, true_and, and_true, false_and, and_false, ite_true, ite_false]; done)
    | (simp only [F250, F339_0_148, G250, G339_0_148, M19, zup2, zup1, zite2, zite1, upd_r, q_24 h, q_25 h, q_26 h, q_27 h, q_28 h, q_29 h, ite_self, not_false_eq_true, not_true_eq_false, Nat.reduceEqDiff, reduceIte, true_and, and_true, false_and, and_false, ite_true, ite_false]; first | exact h1 | grind [zb] | (funext b; grind [zb]))
  · first
    | exact h2
    | (simp only [F250, F339_0_148, G250, G339_0_148, M19, zup2, zup1, zite2, zite1, upd_r, q_24 h, q_25 h, q_26 h, q_27 h, q_28 h, q_29 h, ite_self, not_false_eq_true, not_true_eq_false, Nat.reduceEqDiff, reduceIte, true_and, and_true, false_and, and_false, ite_true, ite_false]; done)
    | (simp only [F250, F339_0_148, G250, G339_0_148, M19, zup2, zup1, zite2, zite1, upd_r, q_24 h, q_25 h, q_26 h, q_27 h, q_28 h, q_29 h, ite_self, not_false_eq_true, not_true_eq_false, Nat.reduceEqDiff, reduceIte, true_and, and_true, false_and, and_false, ite_true, ite_false]; first | exact h2 | grind [zb] | (funext b; grind [zb]))
  · first
    | exact h3
    | (simp only [F250, F339_0_148, G250, G339_0_148, M19, zup2, zup1, zite2, zite1, upd_r, q_24 h, q_25 h, q_26 h, q_27 h, q_28 h, q_29 h, ite_self, not_false_eq_true, not_true_eq_false, Nat.reduceEqDiff, reduceIte, true_and, and_true, false_and, and_false, ite_true, ite_false]; done)
    | (simp only [F250, F339_0_148, G250, G339_0_148, M19, zup2, zup1, zite2, zite1, upd_r, q_24 h, q_25 h, q_26 h, q_27 h, q_28 h, q_29 h, ite_self, not_false_eq_true, not_true_eq_false, Nat.reduceEqDiff, reduceIte, true_and, and_true, false_and, and_false, ite_true, ite_false]; first | exact h3 | grind [zb] | (funext b; grind [zb]))
  · first
    | exact h4
    | (simp only [F250, F339_0_148, G250, G339_0_148, M19, zup2, zup1, zite2, zite1, upd_r, q_24 h, q_25 h, q_26 h, q_27 h, q_28 h, q_29 h, ite_self, not_false_eq_true, not_true_eq_false, Nat.reduceEqDiff, reduceIte, true_and, and_true, false_and, and_false, ite_true, ite_false]; done)
    | (simp only [F250, F339_0_148, G250, G339_0_148, M19, zup2, zup1, zite2, zite1, upd_r, q_24 h, q_25 h, q_26 h, q_27 h, q_28 h, q_29 h, ite_self, not_false_eq_true, not_true_eq_false, Nat.reduceEqDiff, reduceIte, true_and, and_true, false_and, and_false, ite_true, ite_false]; first | exact h4 | grind [zb] | (funext b; grind [zb]))
  · first
    | exact h5
    | (simp only [F250, F339_0_148, G250, G339_0_148, M19, zup2, zup1, zite2, zite1, upd_r, q_24 h, q_25 h, q_26 h, q_27 h, q_28 h, q_29 h, ite_self, not_false_eq_true, not_true_eq_false, Nat.reduceEqDiff, reduceIte, true_and, and_true, false_and, and_false, ite_true, ite_false]; done)
    | (simp only [F250, F339_0_148, G250, G339_0_148, M19, zup2, zup1, zite2, zite1, upd_r, q_24 h, q_25 h, q_26 h, q_27 h, q_28 h, q_29 h, ite_self, not_false_eq_true, not_true_eq_false, Nat.reduceEqDiff, reduceIte, true_and, and_true, false_and, and_false, ite_true, ite_false]; first | exact h5 | grind [zb] | (funext b; grind [zb]))
  · first
    | exact h6
    | (simp only [F250, F339_0_148, G250, G339_0_148, M19, zup2, zup1, zite2, zite1, upd_r, q_24 h, q_25 h, q_26 h, q_27 h, q_28 h, q_29 h, ite_self, not_false_eq_true, not_true_eq_false, Nat.reduceEqDiff, reduceIte, true_and, and_true, false_and, and_false, ite_true, ite_false]; done)
    | (simp only [F250, F339_0_148, G250, G339_0_148, M19, zup2, zup1, zite2, zite1, upd_r, q_24 h, q_25 h, q_26 h, q_27 h, q_28 h, q_29 h, ite_self, not_false_eq_true, not_true_eq_false, Nat.reduceEqDiff, reduceIte, true_and, and_true, false_and, and_false, ite_true, ite_false]; first | exact h6 | (intro j; have hj := h6 j; grind [zb, zo, zn, zlt_m1, zlt_0, zlt_1]) | grind [zb] | (funext b; grind [zb]))

/-! call 20: the class and the reference answer alike (wip/whole/man/20.txt) -/
set_option maxHeartbeats 200000 in
theorem zyr20 {n : Nat} {S T : zS} (q1 : Int32) (q2 : Int32) (h : zR n S T) : ((G261 q1 q2 T) 13 0) = (F340_0_148 q1 q2 S) ∧ ((F340_0_148 q1 q2 S) = 0 → ((G340_0_148 q1 q2 S) 148 0) = (F261 q1 q2 T)) := by
  have hk := i_Tok_10 h
  unfold zn at hk
  first
  | (simp only [F261, F340_0_148, G122, G260, G261, G340_0_148, zup2, zup1, zite2, zite1, upd_r, Int32.mul_comm 6 q1, q_1_6 h, q_24 h, q_25 h, q_5_0 h, q_30 h, ite_self, not_false_eq_true, not_true_eq_false, Nat.reduceEqDiff, reduceIte, true_and, and_true, false_and, and_false, ite_true, ite_false]; done)
  | (simp only [F261, F340_0_148, G122, G260, G261, G340_0_148, zup2, zup1, zite2, zite1, upd_r, Int32.mul_comm 6 q1, q_1_6 h, q_24 h, q_25 h, q_5_0 h, q_30 h, ite_self, not_false_eq_true, not_true_eq_false, Nat.reduceEqDiff, reduceIte, true_and, and_true, false_and, and_false, ite_true, ite_false]; grind [zb])
set_option maxHeartbeats 200000 in
theorem zyt20_Tok {n : Nat} {S T : zS} (q1 : Int32) (q2 : Int32) (hn : n < 512) (h : zR n S T) : zTok (G340_0_148 q1 q2 S) (M20 q1 q2 T) := by
  have hr := zR_Tok h
  unfold zTok at hr ⊢
  obtain ⟨h0, h1, h2, h3, h4, h5, h6, h7, h8, h9, h10, h11, h12, h13, h14, h15, h16, h17, h18, h19⟩ := hr
  have hu : upd (T 119) (T 13 45).toNatClampNeg 0 = T 119 := by
    funext j
    rw [upd_r]
    split
    · rename_i e; rw [e]; exact (h15 _ (Nat.le_refl _)).symm
    · rfl
  have hc : ¬ T 13 45 = 40 → (T 13 45 + 1).toInt = (T 13 45).toInt + 1 ∧ (T 13 45 + 1).toNatClampNeg = (T 13 45).toNatClampNeg + 1 ∧ ((T 13 45).toNatClampNeg : Int) = (T 13 45).toInt ∧ (T 13 45).toInt < 40 := by
    intro e
    have hk := h10
    unfold zn at hk
    have e1 : (T 13 45 + 1).toInt = (T 13 45).toInt + 1 := by rw [zk_tadd (by rw [zk_1]; omega) (by rw [zk_1]; omega), zk_1]
    have e2 := zk_nat (x := T 13 45) (by omega)
    have e3 := zk_nat (x := T 13 45 + 1) (by omega)
    have e4 : ¬ (T 13 45).toInt = 40 := fun e9 => e (zk_eq.mpr e9)
    omega
  refine ⟨?_, ?_, ?_, ?_, ?_, ?_, ?_, ?_, ?_, ?_, ?_, ?_, ?_, ?_, ?_, ?_, ?_, ?_, ?_, ?_⟩
  · first
    | exact h0
    | (simp only [F261, F340_0_148, G122, G260, G261, G340_0_148, M20, zup2, zup1, zite2, zite1, upd_r, Int32.mul_comm 6 q1, q_1_6 h, q_24 h, q_25 h, q_5_0 h, q_30 h, q_31 h, q_32 h, q_33 h, q_34 h, q_37 h, q_38 h, q_39 h, q_40 h, ite_self, not_false_eq_true, not_true_eq_false, Nat.reduceEqDiff, reduceIte, true_and, and_true, false_and, and_false, ite_true, ite_false]; done)
    | (simp only [F261, F340_0_148, G122, G260, G261, G340_0_148, M20, zup2, zup1, zite2, zite1, upd_r, Int32.mul_comm 6 q1, q_1_6 h, q_24 h, q_25 h, q_5_0 h, q_30 h, q_31 h, q_32 h, q_33 h, q_34 h, q_37 h, q_38 h, q_39 h, q_40 h, ite_self, not_false_eq_true, not_true_eq_false, Nat.reduceEqDiff, reduceIte, true_and, and_true, false_and, and_false, ite_true, ite_false]; first | exact h0 | grind [zb] | (funext b; grind [zb]))
  · first
    | exact h1
    | (simp only [F261, F340_0_148, G122, G260, G261, G340_0_148, M20, zup2, zup1, zite2, zite1, upd_r, Int32.mul_comm 6 q1, q_1_6 h, q_24 h, q_25 h, q_5_0 h, q_30 h, q_31 h, q_32 h, q_33 h, q_34 h, q_37 h, q_38 h, q_39 h, q_40 h, ite_self, not_false_eq_true, not_true_eq_false, Nat.reduceEqDiff, reduceIte, true_and, and_true, false_and, and_false, ite_true, ite_false]; done)
    | (simp only [F261, F340_0_148, G122, G260, G261, G340_0_148, M20, zup2, zup1, zite2, zite1, upd_r, Int32.mul_comm 6 q1, q_1_6 h, q_24 h, q_25 h, q_5_0 h, q_30 h, q_31 h, q_32 h, q_33 h, q_34 h, q_37 h, q_38 h, q_39 h, q_40 h, ite_self, not_false_eq_true, not_true_eq_false, Nat.reduceEqDiff, reduceIte, true_and, and_true, false_and, and_false, ite_true, ite_false]; first | exact h1 | grind [zb] | (funext b; grind [zb]))
  · first
    | exact h2
    | (simp only [F261, F340_0_148, G122, G260, G261, G340_0_148, M20, zup2, zup1, zite2, zite1, upd_r, Int32.mul_comm 6 q1, q_1_6 h, q_24 h, q_25 h, q_5_0 h, q_30 h, q_31 h, q_32 h, q_33 h, q_34 h, q_37 h, q_38 h, q_39 h, q_40 h, ite_self, not_false_eq_true, not_true_eq_false, Nat.reduceEqDiff, reduceIte, true_and, and_true, false_and, and_false, ite_true, ite_false]; done)
    | (simp only [F261, F340_0_148, G122, G260, G261, G340_0_148, M20, zup2, zup1, zite2, zite1, upd_r, Int32.mul_comm 6 q1, q_1_6 h, q_24 h, q_25 h, q_5_0 h, q_30 h, q_31 h, q_32 h, q_33 h, q_34 h, q_37 h, q_38 h, q_39 h, q_40 h, ite_self, not_false_eq_true, not_true_eq_false, Nat.reduceEqDiff, reduceIte, true_and, and_true, false_and, and_false, ite_true, ite_false]; first | exact h2 | grind [zb] | (funext b; grind [zb]))
  · first
    | exact h3
    | (simp only [F261, F340_0_148, G122, G260, G261, G340_0_148, M20, zup2, zup1, zite2, zite1, upd_r, Int32.mul_comm 6 q1, q_1_6 h, q_24 h, q_25 h, q_5_0 h, q_30 h, q_31 h, q_32 h, q_33 h, q_34 h, q_37 h, q_38 h, q_39 h, q_40 h, ite_self, not_false_eq_true, not_true_eq_false, Nat.reduceEqDiff, reduceIte, true_and, and_true, false_and, and_false, ite_true, ite_false]; done)
    | (simp only [F261, F340_0_148, G122, G260, G261, G340_0_148, M20, zup2, zup1, zite2, zite1, upd_r, Int32.mul_comm 6 q1, q_1_6 h, q_24 h, q_25 h, q_5_0 h, q_30 h, q_31 h, q_32 h, q_33 h, q_34 h, q_37 h, q_38 h, q_39 h, q_40 h, ite_self, not_false_eq_true, not_true_eq_false, Nat.reduceEqDiff, reduceIte, true_and, and_true, false_and, and_false, ite_true, ite_false]; first | exact h3 | grind [zb] | (funext b; grind [zb]))
  · first
    | exact h4
    | (simp only [F261, F340_0_148, G122, G260, G261, G340_0_148, M20, zup2, zup1, zite2, zite1, upd_r, Int32.mul_comm 6 q1, q_1_6 h, q_24 h, q_25 h, q_5_0 h, q_30 h, q_31 h, q_32 h, q_33 h, q_34 h, q_37 h, q_38 h, q_39 h, q_40 h, ite_self, not_false_eq_true, not_true_eq_false, Nat.reduceEqDiff, reduceIte, true_and, and_true, false_and, and_false, ite_true, ite_false]; done)
    | (simp only [F261, F340_0_148, G122, G260, G261, G340_0_148, M20, zup2, zup1, zite2, zite1, upd_r, Int32.mul_comm 6 q1, q_1_6 h, q_24 h, q_25 h, q_5_0 h, q_30 h, q_31 h, q_32 h, q_33 h, q_34 h, q_37 h, q_38 h, q_39 h, q_40 h, ite_self, not_false_eq_true, not_true_eq_false, Nat.reduceEqDiff, reduceIte, true_and, and_true, false_and, and_false, ite_true, ite_false]; first | exact h4 | grind [zb] | (funext b; grind [zb]))
  · first
    | exact h5
    | (simp only [F261, F340_0_148, G122, G260, G261, G340_0_148, M20, zup2, zup1, zite2, zite1, upd_r, Int32.mul_comm 6 q1, q_1_6 h, q_24 h, q_25 h, q_5_0 h, q_30 h, q_31 h, q_32 h, q_33 h, q_34 h, q_37 h, q_38 h, q_39 h, q_40 h, ite_self, not_false_eq_true, not_true_eq_false, Nat.reduceEqDiff, reduceIte, true_and, and_true, false_and, and_false, ite_true, ite_false]; done)
    | (simp only [F261, F340_0_148, G122, G260, G261, G340_0_148, M20, zup2, zup1, zite2, zite1, upd_r, Int32.mul_comm 6 q1, q_1_6 h, q_24 h, q_25 h, q_5_0 h, q_30 h, q_31 h, q_32 h, q_33 h, q_34 h, q_37 h, q_38 h, q_39 h, q_40 h, ite_self, not_false_eq_true, not_true_eq_false, Nat.reduceEqDiff, reduceIte, true_and, and_true, false_and, and_false, ite_true, ite_false]; first | exact h5 | grind [zb] | (funext b; grind [zb]))
  · first
    | exact h6
    | (simp only [F261, F340_0_148, G122, G260, G261, G340_0_148, M20, zup2, zup1, zite2, zite1, upd_r, Int32.mul_comm 6 q1, q_1_6 h, q_24 h, q_25 h, q_5_0 h, q_30 h, q_31 h, q_32 h, q_33 h, q_34 h, q_37 h, q_38 h, q_39 h, q_40 h, ite_self, not_false_eq_true, not_true_eq_false, Nat.reduceEqDiff, reduceIte, true_and, and_true, false_and, and_false, ite_true, ite_false]; done)
    | (simp only [F261, F340_0_148, G122, G260, G261, G340_0_148, M20, zup2, zup1, zite2, zite1, upd_r, Int32.mul_comm 6 q1, q_1_6 h, q_24 h, q_25 h, q_5_0 h, q_30 h, q_31 h, q_32 h, q_33 h, q_34 h, q_37 h, q_38 h, q_39 h, q_40 h, ite_self, not_false_eq_true, not_true_eq_false, Nat.reduceEqDiff, reduceIte, true_and, and_true, false_and, and_false, ite_true, ite_false]; first | exact h6 | grind [zb] | (funext b; grind [zb]))
  · first
    | exact h7
    | (simp only [F261, F340_0_148, G122, G260, G261, G340_0_148, M20, zup2, zup1, zite2, zite1, upd_r, Int32.mul_comm 6 q1, q_1_6 h, q_24 h, q_25 h, q_5_0 h, q_30 h, q_31 h, q_32 h, q_33 h, q_34 h, q_37 h, q_38 h, q_39 h, q_40 h, ite_self, not_false_eq_true, not_true_eq_false, Nat.reduceEqDiff, reduceIte, true_and, and_true, false_and, and_false, ite_true, ite_false]; done)
    | (simp only [F261, F340_0_148, G122, G260, G261, G340_0_148, M20, zup2, zup1, zite2, zite1, upd_r, Int32.mul_comm 6 q1, q_1_6 h, q_24 h, q_25 h, q_5_0 h, q_30 h, q_31 h, q_32 h, q_33 h, q_34 h, q_37 h, q_38 h, q_39 h, q_40 h, ite_self, not_false_eq_true, not_true_eq_false, Nat.reduceEqDiff, reduceIte, true_and, and_true, false_and, and_false, ite_true, ite_false]; first | exact h7 | grind [zb] | (funext b; grind [zb]))
  · first
    | exact h8
    | (simp only [F261, F340_0_148, G122, G260, G261, G340_0_148, M20, zup2, zup1, zite2, zite1, upd_r, Int32.mul_comm 6 q1, q_1_6 h, q_24 h, q_25 h, q_5_0 h, q_30 h, q_31 h, q_32 h, q_33 h, q_34 h, q_37 h, q_38 h, q_39 h, q_40 h, ite_self, not_false_eq_true, not_true_eq_false, Nat.reduceEqDiff, reduceIte, true_and, and_true, false_and, and_false, ite_true, ite_false]; done)
    | (simp only [F261, F340_0_148, G122, G260, G261, G340_0_148, M20, zup2, zup1, zite2, zite1, upd_r, Int32.mul_comm 6 q1, q_1_6 h, q_24 h, q_25 h, q_5_0 h, q_30 h, q_31 h, q_32 h, q_33 h, q_34 h, q_37 h, q_38 h, q_39 h, q_40 h, ite_self, not_false_eq_true, not_true_eq_false, Nat.reduceEqDiff, reduceIte, true_and, and_true, false_and, and_false, ite_true, ite_false]; first | exact h8 | grind [zb] | (funext b; grind [zb]))
  · simp only [F261, F340_0_148, G122, G260, G261, G340_0_148, M20, zup2, zup1, zite2, zite1, upd_r, Int32.mul_comm 6 q1, q_1_6 h, q_24 h, q_25 h, q_5_0 h, q_30 h, q_31 h, q_32 h, q_33 h, q_34 h, q_37 h, q_38 h, q_39 h, q_40 h, ite_self, not_false_eq_true, not_true_eq_false, Nat.reduceEqDiff, reduceIte, true_and, and_true, false_and, and_false, ite_true, ite_false]
    grind
  · simp only [F261, F340_0_148, G122, G260, G261, G340_0_148, M20, zup2, zup1, zite2, zite1, upd_r, Int32.mul_comm 6 q1, q_1_6 h, q_24 h, q_25 h, q_5_0 h, q_30 h, q_31 h, q_32 h, q_33 h, q_34 h, q_37 h, q_38 h, q_39 h, q_40 h, ite_self, not_false_eq_true, not_true_eq_false, Nat.reduceEqDiff, reduceIte, true_and, and_true, false_and, and_false, ite_true, ite_false]
    clear h11 h12 h13 h14 h15 h16 h17 h18 h19; unfold zn at *; grind
  · first
    | exact h11
    | (simp only [F261, F340_0_148, G122, G260, G261, G340_0_148, M20, zup2, zup1, zite2, zite1, upd_r, Int32.mul_comm 6 q1, q_1_6 h, q_24 h, q_25 h, q_5_0 h, q_30 h, q_31 h, q_32 h, q_33 h, q_34 h, q_37 h, q_38 h, q_39 h, q_40 h, ite_self, not_false_eq_true, not_true_eq_false, Nat.reduceEqDiff, reduceIte, true_and, and_true, false_and, and_false, ite_true, ite_false]; done)
    | (simp only [F261, F340_0_148, G122, G260, G261, G340_0_148, M20, zup2, zup1, zite2, zite1, upd_r, Int32.mul_comm 6 q1, q_1_6 h, q_24 h, q_25 h, q_5_0 h, q_30 h, q_31 h, q_32 h, q_33 h, q_34 h, q_37 h, q_38 h, q_39 h, q_40 h, ite_self, not_false_eq_true, not_true_eq_false, Nat.reduceEqDiff, reduceIte, true_and, and_true, false_and, and_false, ite_true, ite_false]; first | exact h11 | (intro j; have hj := h11 j; grind [zb, zo, zn, zlt_m1, zlt_0, zlt_1]) | grind [zb] | (funext b; grind [zb]))
  · first
    | exact h12
    | (simp only [F261, F340_0_148, G122, G260, G261, G340_0_148, M20, zup2, zup1, zite2, zite1, upd_r, Int32.mul_comm 6 q1, q_1_6 h, q_24 h, q_25 h, q_5_0 h, q_30 h, q_31 h, q_32 h, q_33 h, q_34 h, q_37 h, q_38 h, q_39 h, q_40 h, ite_self, not_false_eq_true, not_true_eq_false, Nat.reduceEqDiff, reduceIte, true_and, and_true, false_and, and_false, ite_true, ite_false]; done)
    | (simp only [F261, F340_0_148, G122, G260, G261, G340_0_148, M20, zup2, zup1, zite2, zite1, upd_r, Int32.mul_comm 6 q1, q_1_6 h, q_24 h, q_25 h, q_5_0 h, q_30 h, q_31 h, q_32 h, q_33 h, q_34 h, q_37 h, q_38 h, q_39 h, q_40 h, ite_self, not_false_eq_true, not_true_eq_false, Nat.reduceEqDiff, reduceIte, true_and, and_true, false_and, and_false, ite_true, ite_false]; first | exact h12 | (intro j; have hj := h12 j; grind [zb, zo, zn, zlt_m1, zlt_0, zlt_1]) | grind [zb] | (funext b; grind [zb]))
  · simp only [F261, F340_0_148, G122, G260, G261, G340_0_148, M20, zup2, zup1, zite2, zite1, upd_r, Int32.mul_comm 6 q1, q_1_6 h, q_24 h, q_25 h, q_5_0 h, q_30 h, q_31 h, q_32 h, q_33 h, q_34 h, q_37 h, q_38 h, q_39 h, q_40 h, ite_self, not_false_eq_true, not_true_eq_false, Nat.reduceEqDiff, reduceIte, true_and, and_true, false_and, and_false, ite_true, ite_false]
    intro j; have hj := h13 j; clear h11 h12 h13 h14 h15 h16 h17 h18 h19; grind
  · first
    | exact h14
    | (simp only [F261, F340_0_148, G122, G260, G261, G340_0_148, M20, zup2, zup1, zite2, zite1, upd_r, Int32.mul_comm 6 q1, q_1_6 h, q_24 h, q_25 h, q_5_0 h, q_30 h, q_31 h, q_32 h, q_33 h, q_34 h, q_37 h, q_38 h, q_39 h, q_40 h, ite_self, not_false_eq_true, not_true_eq_false, Nat.reduceEqDiff, reduceIte, true_and, and_true, false_and, and_false, ite_true, ite_false]; done)
    | (simp only [F261, F340_0_148, G122, G260, G261, G340_0_148, M20, zup2, zup1, zite2, zite1, upd_r, Int32.mul_comm 6 q1, q_1_6 h, q_24 h, q_25 h, q_5_0 h, q_30 h, q_31 h, q_32 h, q_33 h, q_34 h, q_37 h, q_38 h, q_39 h, q_40 h, ite_self, not_false_eq_true, not_true_eq_false, Nat.reduceEqDiff, reduceIte, true_and, and_true, false_and, and_false, ite_true, ite_false]; first | exact h14 | (intro j; have hj := h14 j; grind [zb, zo, zn, zlt_m1, zlt_0, zlt_1]) | grind [zb] | (funext b; grind [zb]))
  · simp only [F261, F340_0_148, G122, G260, G261, G340_0_148, M20, zup2, zup1, zite2, zite1, upd_r, Int32.mul_comm 6 q1, q_1_6 h, q_24 h, q_25 h, q_5_0 h, q_30 h, q_31 h, q_32 h, q_33 h, q_34 h, q_37 h, q_38 h, q_39 h, q_40 h, ite_self, not_false_eq_true, not_true_eq_false, Nat.reduceEqDiff, reduceIte, true_and, and_true, false_and, and_false, ite_true, ite_false]
    intro j; have hj := h15 j; clear h11 h12 h13 h14 h15 h16 h17 h18 h19; grind
  · first
    | exact h16
    | (simp only [F261, F340_0_148, G122, G260, G261, G340_0_148, M20, zup2, zup1, zite2, zite1, upd_r, Int32.mul_comm 6 q1, q_1_6 h, q_24 h, q_25 h, q_5_0 h, q_30 h, q_31 h, q_32 h, q_33 h, q_34 h, q_37 h, q_38 h, q_39 h, q_40 h, ite_self, not_false_eq_true, not_true_eq_false, Nat.reduceEqDiff, reduceIte, true_and, and_true, false_and, and_false, ite_true, ite_false]; done)
    | (simp only [F261, F340_0_148, G122, G260, G261, G340_0_148, M20, zup2, zup1, zite2, zite1, upd_r, Int32.mul_comm 6 q1, q_1_6 h, q_24 h, q_25 h, q_5_0 h, q_30 h, q_31 h, q_32 h, q_33 h, q_34 h, q_37 h, q_38 h, q_39 h, q_40 h, ite_self, not_false_eq_true, not_true_eq_false, Nat.reduceEqDiff, reduceIte, true_and, and_true, false_and, and_false, ite_true, ite_false]; first | exact h16 | (intro j; have hj := h16 j; grind [zb, zo, zn, zlt_m1, zlt_0, zlt_1]) | grind [zb] | (funext b; grind [zb]))
  · first
    | exact h17
    | (simp only [F261, F340_0_148, G122, G260, G261, G340_0_148, M20, zup2, zup1, zite2, zite1, upd_r, Int32.mul_comm 6 q1, q_1_6 h, q_24 h, q_25 h, q_5_0 h, q_30 h, q_31 h, q_32 h, q_33 h, q_34 h, q_37 h, q_38 h, q_39 h, q_40 h, ite_self, not_false_eq_true, not_true_eq_false, Nat.reduceEqDiff, reduceIte, true_and, and_true, false_and, and_false, ite_true, ite_false]; done)
    | (simp only [F261, F340_0_148, G122, G260, G261, G340_0_148, M20, zup2, zup1, zite2, zite1, upd_r, Int32.mul_comm 6 q1, q_1_6 h, q_24 h, q_25 h, q_5_0 h, q_30 h, q_31 h, q_32 h, q_33 h, q_34 h, q_37 h, q_38 h, q_39 h, q_40 h, ite_self, not_false_eq_true, not_true_eq_false, Nat.reduceEqDiff, reduceIte, true_and, and_true, false_and, and_false, ite_true, ite_false]; first | exact h17 | (intro j; have hj := h17 j; grind [zb, zo, zn, zlt_m1, zlt_0, zlt_1]) | grind [zb] | (funext b; grind [zb]))
  · first
    | exact h18
    | (simp only [F261, F340_0_148, G122, G260, G261, G340_0_148, M20, zup2, zup1, zite2, zite1, upd_r, Int32.mul_comm 6 q1, q_1_6 h, q_24 h, q_25 h, q_5_0 h, q_30 h, q_31 h, q_32 h, q_33 h, q_34 h, q_37 h, q_38 h, q_39 h, q_40 h, ite_self, not_false_eq_true, not_true_eq_false, Nat.reduceEqDiff, reduceIte, true_and, and_true, false_and, and_false, ite_true, ite_false]; done)
    | (simp only [F261, F340_0_148, G122, G260, G261, G340_0_148, M20, zup2, zup1, zite2, zite1, upd_r, Int32.mul_comm 6 q1, q_1_6 h, q_24 h, q_25 h, q_5_0 h, q_30 h, q_31 h, q_32 h, q_33 h, q_34 h, q_37 h, q_38 h, q_39 h, q_40 h, ite_self, not_false_eq_true, not_true_eq_false, Nat.reduceEqDiff, reduceIte, true_and, and_true, false_and, and_false, ite_true, ite_false]; first | exact h18 | (intro j; have hj := h18 j; grind [zb, zo, zn, zlt_m1, zlt_0, zlt_1]) | grind [zb] | (funext b; grind [zb]))
  · first
    | exact h19
    | (simp only [F261, F340_0_148, G122, G260, G261, G340_0_148, M20, zup2, zup1, zite2, zite1, upd_r, Int32.mul_comm 6 q1, q_1_6 h, q_24 h, q_25 h, q_5_0 h, q_30 h, q_31 h, q_32 h, q_33 h, q_34 h, q_37 h, q_38 h, q_39 h, q_40 h, ite_self, not_false_eq_true, not_true_eq_false, Nat.reduceEqDiff, reduceIte, true_and, and_true, false_and, and_false, ite_true, ite_false]; done)
    | (simp only [F261, F340_0_148, G122, G260, G261, G340_0_148, M20, zup2, zup1, zite2, zite1, upd_r, Int32.mul_comm 6 q1, q_1_6 h, q_24 h, q_25 h, q_5_0 h, q_30 h, q_31 h, q_32 h, q_33 h, q_34 h, q_37 h, q_38 h, q_39 h, q_40 h, ite_self, not_false_eq_true, not_true_eq_false, Nat.reduceEqDiff, reduceIte, true_and, and_true, false_and, and_false, ite_true, ite_false]; first | exact h19 | grind [zb] | (funext b; grind [zb]))
set_option maxHeartbeats 200000 in
theorem zyt20_LT {n : Nat} {S T : zS} (q1 : Int32) (q2 : Int32) (hn : n < 512) (h : zR n S T) : zLT (G340_0_148 q1 q2 S) (M20 q1 q2 T) := by
  have hr := zR_LT h
  have hk := i_Tok_10 h
  have hz := i_Tok_15 h
  unfold zLT at hr ⊢
  unfold zn at hk
  have hc : ¬ T 13 45 = 40 → (T 13 45 + 1).toInt = (T 13 45).toInt + 1 := by
    intro e
    have e4 : ¬ (T 13 45).toInt = 40 := fun e9 => e (zk_eq.mpr e9)
    rw [zk_tadd (by rw [zk_1]; omega) (by rw [zk_1]; omega), zk_1]
  simp only [M20, G261, G260, zup2, zup1, zite2, zite1, upd_r, not_false_eq_true, not_true_eq_false, Nat.reduceEqDiff, reduceIte, true_and, and_true, false_and, and_false, ite_true, ite_false]
  intro j
  have hj := hr j
  have hzj := hz (T 120 j).toNatClampNeg
  grind
set_option maxHeartbeats 200000 in
theorem zyt20_Use {n : Nat} {S T : zS} (q1 : Int32) (q2 : Int32) (hn : n < 512) (h : zR n S T) : zUse (G340_0_148 q1 q2 S) (M20 q1 q2 T) := by
  have hr := zR_Use h
  have hk := i_Tok_10 h
  unfold zUse at hr ⊢
  unfold zn at hk
  have hc : ¬ T 13 45 = 40 → (T 13 45 + 1).toNatClampNeg = (T 13 45).toNatClampNeg + 1 := by
    intro e
    have e1 : (T 13 45 + 1).toInt = (T 13 45).toInt + 1 := by rw [zk_tadd (by rw [zk_1]; omega) (by rw [zk_1]; omega), zk_1]
    have e2 := zk_nat (x := T 13 45) (by omega)
    have e3 := zk_nat (x := T 13 45 + 1) (by omega)
    omega
  simp only [M20, G261, G260, zup2, zup1, zite2, zite1, upd_r, not_false_eq_true, not_true_eq_false, Nat.reduceEqDiff, reduceIte, true_and, and_true, false_and, and_false, ite_true, ite_false]
  intro j
  have hj := hr j
  grind

/-! call 22: the class and the reference answer alike (wip/whole/man/22.txt) -/
set_option maxHeartbeats 200000 in
theorem zyr22 {n : Nat} {S T : zS} (q1 : Int32) (q2 : Int32) (h : zR n S T) : ((G263 q1 q2 T) 13 0) = (F342_0_148 q1 q2 S) ∧ ((F342_0_148 q1 q2 S) = 0 → ((G342_0_148 q1 q2 S) 148 0) = (F263 q1 q2 T)) := by
  first
  | (simp only [F263, F342_0_148, G263, G342_0_148, zup2, zup1, zite2, zite1, upd_r, zt_le (zn_mono (i_Tok_10 h) (by decide)), q_1_6 h, q_0_11 h, q_5_0 h, q_31 h, q_34 h, q_40 h, ite_self, not_false_eq_true, not_true_eq_false, Nat.reduceEqDiff, reduceIte, true_and, and_true, false_and, and_false, ite_true, ite_false]; done)
  | (simp only [F263, F342_0_148, G263, G342_0_148, zup2, zup1, zite2, zite1, upd_r, zt_le (zn_mono (i_Tok_10 h) (by decide)), q_1_6 h, q_0_11 h, q_5_0 h, q_31 h, q_34 h, q_40 h, ite_self, not_false_eq_true, not_true_eq_false, Nat.reduceEqDiff, reduceIte, true_and, and_true, false_and, and_false, ite_true, ite_false]; grind [zb])
set_option maxHeartbeats 200000 in
theorem zyt22_Tok {n : Nat} {S T : zS} (q1 : Int32) (q2 : Int32) (hn : n < 512) (h : zR n S T) : zTok (G342_0_148 q1 q2 S) (M22 q1 q2 T) := by
  have hr := zR_Tok h
  unfold zTok at hr ⊢
  obtain ⟨h0, h1, h2, h3, h4, h5, h6, h7, h8, h9, h10, h11, h12, h13, h14, h15, h16, h17, h18, h19⟩ := hr
  refine ⟨?_, ?_, ?_, ?_, ?_, ?_, ?_, ?_, ?_, ?_, ?_, ?_, ?_, ?_, ?_, ?_, ?_, ?_, ?_, ?_⟩
  · first
    | exact h0
    | (simp only [F263, F342_0_148, G263, G342_0_148, M22, zup2, zup1, zite2, zite1, upd_r, zt_le (zn_mono (i_Tok_10 h) (by decide)), q_1_6 h, q_0_11 h, q_5_0 h, q_30 h, q_31 h, q_32 h, q_33 h, q_34 h, q_37 h, q_38 h, q_39 h, q_40 h, ite_self, not_false_eq_true, not_true_eq_false, Nat.reduceEqDiff, reduceIte, true_and, and_true, false_and, and_false, ite_true, ite_false]; done)
    | (simp only [F263, F342_0_148, G263, G342_0_148, M22, zup2, zup1, zite2, zite1, upd_r, zt_le (zn_mono (i_Tok_10 h) (by decide)), q_1_6 h, q_0_11 h, q_5_0 h, q_30 h, q_31 h, q_32 h, q_33 h, q_34 h, q_37 h, q_38 h, q_39 h, q_40 h, ite_self, not_false_eq_true, not_true_eq_false, Nat.reduceEqDiff, reduceIte, true_and, and_true, false_and, and_false, ite_true, ite_false]; first | exact h0 | grind [zb] | (funext b; grind [zb]))
  · first
    | exact h1
    | (simp only [F263, F342_0_148, G263, G342_0_148, M22, zup2, zup1, zite2, zite1, upd_r, zt_le (zn_mono (i_Tok_10 h) (by decide)), q_1_6 h, q_0_11 h, q_5_0 h, q_30 h, q_31 h, q_32 h, q_33 h, q_34 h, q_37 h, q_38 h, q_39 h, q_40 h, ite_self, not_false_eq_true, not_true_eq_false, Nat.reduceEqDiff, reduceIte, true_and, and_true, false_and, and_false, ite_true, ite_false]; done)
    | (simp only [F263, F342_0_148, G263, G342_0_148, M22, zup2, zup1, zite2, zite1, upd_r, zt_le (zn_mono (i_Tok_10 h) (by decide)), q_1_6 h, q_0_11 h, q_5_0 h, q_30 h, q_31 h, q_32 h, q_33 h, q_34 h, q_37 h, q_38 h, q_39 h, q_40 h, ite_self, not_false_eq_true, not_true_eq_false, Nat.reduceEqDiff, reduceIte, true_and, and_true, false_and, and_false, ite_true, ite_false]; first | exact h1 | grind [zb] | (funext b; grind [zb]))
  · first
    | exact h2
    | (simp only [F263, F342_0_148, G263, G342_0_148, M22, zup2, zup1, zite2, zite1, upd_r, zt_le (zn_mono (i_Tok_10 h) (by decide)), q_1_6 h, q_0_11 h, q_5_0 h, q_30 h, q_31 h, q_32 h, q_33 h, q_34 h, q_37 h, q_38 h, q_39 h, q_40 h, ite_self, not_false_eq_true, not_true_eq_false, Nat.reduceEqDiff, reduceIte, true_and, and_true, false_and, and_false, ite_true, ite_false]; done)
    | (simp only [F263, F342_0_148, G263, G342_0_148, M22, zup2, zup1, zite2, zite1, upd_r, zt_le (zn_mono (i_Tok_10 h) (by decide)), q_1_6 h, q_0_11 h, q_5_0 h, q_30 h, q_31 h, q_32 h, q_33 h, q_34 h, q_37 h, q_38 h, q_39 h, q_40 h, ite_self, not_false_eq_true, not_true_eq_false, Nat.reduceEqDiff, reduceIte, true_and, and_true, false_and, and_false, ite_true, ite_false]; first | exact h2 | grind [zb] | (funext b; grind [zb]))
  · first
    | exact h3
    | (simp only [F263, F342_0_148, G263, G342_0_148, M22, zup2, zup1, zite2, zite1, upd_r, zt_le (zn_mono (i_Tok_10 h) (by decide)), q_1_6 h, q_0_11 h, q_5_0 h, q_30 h, q_31 h, q_32 h, q_33 h, q_34 h, q_37 h, q_38 h, q_39 h, q_40 h, ite_self, not_false_eq_true, not_true_eq_false, Nat.reduceEqDiff, reduceIte, true_and, and_true, false_and, and_false, ite_true, ite_false]; done)
    | (simp only [F263, F342_0_148, G263, G342_0_148, M22, zup2, zup1, zite2, zite1, upd_r, zt_le (zn_mono (i_Tok_10 h) (by decide)), q_1_6 h, q_0_11 h, q_5_0 h, q_30 h, q_31 h, q_32 h, q_33 h, q_34 h, q_37 h, q_38 h, q_39 h, q_40 h, ite_self, not_false_eq_true, not_true_eq_false, Nat.reduceEqDiff, reduceIte, true_and, and_true, false_and, and_false, ite_true, ite_false]; first | exact h3 | grind [zb] | (funext b; grind [zb]))
  · first
    | exact h4
    | (simp only [F263, F342_0_148, G263, G342_0_148, M22, zup2, zup1, zite2, zite1, upd_r, zt_le (zn_mono (i_Tok_10 h) (by decide)), q_1_6 h, q_0_11 h, q_5_0 h, q_30 h, q_31 h, q_32 h, q_33 h, q_34 h, q_37 h, q_38 h, q_39 h, q_40 h, ite_self, not_false_eq_true, not_true_eq_false, Nat.reduceEqDiff, reduceIte, true_and, and_true, false_and, and_false, ite_true, ite_false]; done)
    | (simp only [F263, F342_0_148, G263, G342_0_148, M22, zup2, zup1, zite2, zite1, upd_r, zt_le (zn_mono (i_Tok_10 h) (by decide)), q_1_6 h, q_0_11 h, q_5_0 h, q_30 h, q_31 h, q_32 h, q_33 h, q_34 h, q_37 h, q_38 h, q_39 h, q_40 h, ite_self, not_false_eq_true, not_true_eq_false, Nat.reduceEqDiff, reduceIte, true_and, and_true, false_and, and_false, ite_true, ite_false]; first | exact h4 | grind [zb] | (funext b; grind [zb]))
  · first
    | exact h5
    | (simp only [F263, F342_0_148, G263, G342_0_148, M22, zup2, zup1, zite2, zite1, upd_r, zt_le (zn_mono (i_Tok_10 h) (by decide)), q_1_6 h, q_0_11 h, q_5_0 h, q_30 h, q_31 h, q_32 h, q_33 h, q_34 h, q_37 h, q_38 h, q_39 h, q_40 h, ite_self, not_false_eq_true, not_true_eq_false, Nat.reduceEqDiff, reduceIte, true_and, and_true, false_and, and_false, ite_true, ite_false]; done)
    | (simp only [F263, F342_0_148, G263, G342_0_148, M22, zup2, zup1, zite2, zite1, upd_r, zt_le (zn_mono (i_Tok_10 h) (by decide)), q_1_6 h, q_0_11 h, q_5_0 h, q_30 h, q_31 h, q_32 h, q_33 h, q_34 h, q_37 h, q_38 h, q_39 h, q_40 h, ite_self, not_false_eq_true, not_true_eq_false, Nat.reduceEqDiff, reduceIte, true_and, and_true, false_and, and_false, ite_true, ite_false]; first | exact h5 | grind [zb] | (funext b; grind [zb]))
  · first
    | exact h6
    | (simp only [F263, F342_0_148, G263, G342_0_148, M22, zup2, zup1, zite2, zite1, upd_r, zt_le (zn_mono (i_Tok_10 h) (by decide)), q_1_6 h, q_0_11 h, q_5_0 h, q_30 h, q_31 h, q_32 h, q_33 h, q_34 h, q_37 h, q_38 h, q_39 h, q_40 h, ite_self, not_false_eq_true, not_true_eq_false, Nat.reduceEqDiff, reduceIte, true_and, and_true, false_and, and_false, ite_true, ite_false]; done)
    | (simp only [F263, F342_0_148, G263, G342_0_148, M22, zup2, zup1, zite2, zite1, upd_r, zt_le (zn_mono (i_Tok_10 h) (by decide)), q_1_6 h, q_0_11 h, q_5_0 h, q_30 h, q_31 h, q_32 h, q_33 h, q_34 h, q_37 h, q_38 h, q_39 h, q_40 h, ite_self, not_false_eq_true, not_true_eq_false, Nat.reduceEqDiff, reduceIte, true_and, and_true, false_and, and_false, ite_true, ite_false]; first | exact h6 | grind [zb] | (funext b; grind [zb]))
  · first
    | exact h7
    | (simp only [F263, F342_0_148, G263, G342_0_148, M22, zup2, zup1, zite2, zite1, upd_r, zt_le (zn_mono (i_Tok_10 h) (by decide)), q_1_6 h, q_0_11 h, q_5_0 h, q_30 h, q_31 h, q_32 h, q_33 h, q_34 h, q_37 h, q_38 h, q_39 h, q_40 h, ite_self, not_false_eq_true, not_true_eq_false, Nat.reduceEqDiff, reduceIte, true_and, and_true, false_and, and_false, ite_true, ite_false]; done)
    | (simp only [F263, F342_0_148, G263, G342_0_148, M22, zup2, zup1, zite2, zite1, upd_r, zt_le (zn_mono (i_Tok_10 h) (by decide)), q_1_6 h, q_0_11 h, q_5_0 h, q_30 h, q_31 h, q_32 h, q_33 h, q_34 h, q_37 h, q_38 h, q_39 h, q_40 h, ite_self, not_false_eq_true, not_true_eq_false, Nat.reduceEqDiff, reduceIte, true_and, and_true, false_and, and_false, ite_true, ite_false]; first | exact h7 | grind [zb] | (funext b; grind [zb]))
  · first
    | exact h8
    | (simp only [F263, F342_0_148, G263, G342_0_148, M22, zup2, zup1, zite2, zite1, upd_r, zt_le (zn_mono (i_Tok_10 h) (by decide)), q_1_6 h, q_0_11 h, q_5_0 h, q_30 h, q_31 h, q_32 h, q_33 h, q_34 h, q_37 h, q_38 h, q_39 h, q_40 h, ite_self, not_false_eq_true, not_true_eq_false, Nat.reduceEqDiff, reduceIte, true_and, and_true, false_and, and_false, ite_true, ite_false]; done)
    | (simp only [F263, F342_0_148, G263, G342_0_148, M22, zup2, zup1, zite2, zite1, upd_r, zt_le (zn_mono (i_Tok_10 h) (by decide)), q_1_6 h, q_0_11 h, q_5_0 h, q_30 h, q_31 h, q_32 h, q_33 h, q_34 h, q_37 h, q_38 h, q_39 h, q_40 h, ite_self, not_false_eq_true, not_true_eq_false, Nat.reduceEqDiff, reduceIte, true_and, and_true, false_and, and_false, ite_true, ite_false]; first | exact h8 | grind [zb] | (funext b; grind [zb]))
  · first
    | exact h9
    | (simp only [F263, F342_0_148, G263, G342_0_148, M22, zup2, zup1, zite2, zite1, upd_r, zt_le (zn_mono (i_Tok_10 h) (by decide)), q_1_6 h, q_0_11 h, q_5_0 h, q_30 h, q_31 h, q_32 h, q_33 h, q_34 h, q_37 h, q_38 h, q_39 h, q_40 h, ite_self, not_false_eq_true, not_true_eq_false, Nat.reduceEqDiff, reduceIte, true_and, and_true, false_and, and_false, ite_true, ite_false]; done)
    | (simp only [F263, F342_0_148, G263, G342_0_148, M22, zup2, zup1, zite2, zite1, upd_r, zt_le (zn_mono (i_Tok_10 h) (by decide)), q_1_6 h, q_0_11 h, q_5_0 h, q_30 h, q_31 h, q_32 h, q_33 h, q_34 h, q_37 h, q_38 h, q_39 h, q_40 h, ite_self, not_false_eq_true, not_true_eq_false, Nat.reduceEqDiff, reduceIte, true_and, and_true, false_and, and_false, ite_true, ite_false]; first | exact h9 | grind [zb] | (funext b; grind [zb]))
  · first
    | exact h10
    | (simp only [F263, F342_0_148, G263, G342_0_148, M22, zup2, zup1, zite2, zite1, upd_r, zt_le (zn_mono (i_Tok_10 h) (by decide)), q_1_6 h, q_0_11 h, q_5_0 h, q_30 h, q_31 h, q_32 h, q_33 h, q_34 h, q_37 h, q_38 h, q_39 h, q_40 h, ite_self, not_false_eq_true, not_true_eq_false, Nat.reduceEqDiff, reduceIte, true_and, and_true, false_and, and_false, ite_true, ite_false]; done)
    | (simp only [F263, F342_0_148, G263, G342_0_148, M22, zup2, zup1, zite2, zite1, upd_r, zt_le (zn_mono (i_Tok_10 h) (by decide)), q_1_6 h, q_0_11 h, q_5_0 h, q_30 h, q_31 h, q_32 h, q_33 h, q_34 h, q_37 h, q_38 h, q_39 h, q_40 h, ite_self, not_false_eq_true, not_true_eq_false, Nat.reduceEqDiff, reduceIte, true_and, and_true, false_and, and_false, ite_true, ite_false]; first | exact h10 | grind [zb] | (funext b; grind [zb]))
  · first
    | exact h11
    | (simp only [F263, F342_0_148, G263, G342_0_148, M22, zup2, zup1, zite2, zite1, upd_r, zt_le (zn_mono (i_Tok_10 h) (by decide)), q_1_6 h, q_0_11 h, q_5_0 h, q_30 h, q_31 h, q_32 h, q_33 h, q_34 h, q_37 h, q_38 h, q_39 h, q_40 h, ite_self, not_false_eq_true, not_true_eq_false, Nat.reduceEqDiff, reduceIte, true_and, and_true, false_and, and_false, ite_true, ite_false]; done)
    | (simp only [F263, F342_0_148, G263, G342_0_148, M22, zup2, zup1, zite2, zite1, upd_r, zt_le (zn_mono (i_Tok_10 h) (by decide)), q_1_6 h, q_0_11 h, q_5_0 h, q_30 h, q_31 h, q_32 h, q_33 h, q_34 h, q_37 h, q_38 h, q_39 h, q_40 h, ite_self, not_false_eq_true, not_true_eq_false, Nat.reduceEqDiff, reduceIte, true_and, and_true, false_and, and_false, ite_true, ite_false]; first | exact h11 | (intro j; have hj := h11 j; grind [zb, zo, zn, zlt_m1, zlt_0, zlt_1]) | grind [zb] | (funext b; grind [zb]))
  · first
    | exact h12
    | (simp only [F263, F342_0_148, G263, G342_0_148, M22, zup2, zup1, zite2, zite1, upd_r, zt_le (zn_mono (i_Tok_10 h) (by decide)), q_1_6 h, q_0_11 h, q_5_0 h, q_30 h, q_31 h, q_32 h, q_33 h, q_34 h, q_37 h, q_38 h, q_39 h, q_40 h, ite_self, not_false_eq_true, not_true_eq_false, Nat.reduceEqDiff, reduceIte, true_and, and_true, false_and, and_false, ite_true, ite_false]; done)
    | (simp only [F263, F342_0_148, G263, G342_0_148, M22, zup2, zup1, zite2, zite1, upd_r, zt_le (zn_mono (i_Tok_10 h) (by decide)), q_1_6 h, q_0_11 h, q_5_0 h, q_30 h, q_31 h, q_32 h, q_33 h, q_34 h, q_37 h, q_38 h, q_39 h, q_40 h, ite_self, not_false_eq_true, not_true_eq_false, Nat.reduceEqDiff, reduceIte, true_and, and_true, false_and, and_false, ite_true, ite_false]; first | exact h12 | (intro j; have hj := h12 j; grind [zb, zo, zn, zlt_m1, zlt_0, zlt_1]) | grind [zb] | (funext b; grind [zb]))
  · first
    | exact h13
    | (simp only [F263, F342_0_148, G263, G342_0_148, M22, zup2, zup1, zite2, zite1, upd_r, zt_le (zn_mono (i_Tok_10 h) (by decide)), q_1_6 h, q_0_11 h, q_5_0 h, q_30 h, q_31 h, q_32 h, q_33 h, q_34 h, q_37 h, q_38 h, q_39 h, q_40 h, ite_self, not_false_eq_true, not_true_eq_false, Nat.reduceEqDiff, reduceIte, true_and, and_true, false_and, and_false, ite_true, ite_false]; done)
    | (simp only [F263, F342_0_148, G263, G342_0_148, M22, zup2, zup1, zite2, zite1, upd_r, zt_le (zn_mono (i_Tok_10 h) (by decide)), q_1_6 h, q_0_11 h, q_5_0 h, q_30 h, q_31 h, q_32 h, q_33 h, q_34 h, q_37 h, q_38 h, q_39 h, q_40 h, ite_self, not_false_eq_true, not_true_eq_false, Nat.reduceEqDiff, reduceIte, true_and, and_true, false_and, and_false, ite_true, ite_false]; first | exact h13 | (intro j; have hj := h13 j; grind [zb, zo, zn, zlt_m1, zlt_0, zlt_1]) | grind [zb] | (funext b; grind [zb]))
  · first
    | exact h14
    | (simp only [F263, F342_0_148, G263, G342_0_148, M22, zup2, zup1, zite2, zite1, upd_r, zt_le (zn_mono (i_Tok_10 h) (by decide)), q_1_6 h, q_0_11 h, q_5_0 h, q_30 h, q_31 h, q_32 h, q_33 h, q_34 h, q_37 h, q_38 h, q_39 h, q_40 h, ite_self, not_false_eq_true, not_true_eq_false, Nat.reduceEqDiff, reduceIte, true_and, and_true, false_and, and_false, ite_true, ite_false]; done)
    | (simp only [F263, F342_0_148, G263, G342_0_148, M22, zup2, zup1, zite2, zite1, upd_r, zt_le (zn_mono (i_Tok_10 h) (by decide)), q_1_6 h, q_0_11 h, q_5_0 h, q_30 h, q_31 h, q_32 h, q_33 h, q_34 h, q_37 h, q_38 h, q_39 h, q_40 h, ite_self, not_false_eq_true, not_true_eq_false, Nat.reduceEqDiff, reduceIte, true_and, and_true, false_and, and_false, ite_true, ite_false]; first | exact h14 | (intro j; have hj := h14 j; grind [zb, zo, zn, zlt_m1, zlt_0, zlt_1]) | grind [zb] | (funext b; grind [zb]))
  · first
    | exact h15
    | (simp only [F263, F342_0_148, G263, G342_0_148, M22, zup2, zup1, zite2, zite1, upd_r, zt_le (zn_mono (i_Tok_10 h) (by decide)), q_1_6 h, q_0_11 h, q_5_0 h, q_30 h, q_31 h, q_32 h, q_33 h, q_34 h, q_37 h, q_38 h, q_39 h, q_40 h, ite_self, not_false_eq_true, not_true_eq_false, Nat.reduceEqDiff, reduceIte, true_and, and_true, false_and, and_false, ite_true, ite_false]; done)
    | (simp only [F263, F342_0_148, G263, G342_0_148, M22, zup2, zup1, zite2, zite1, upd_r, zt_le (zn_mono (i_Tok_10 h) (by decide)), q_1_6 h, q_0_11 h, q_5_0 h, q_30 h, q_31 h, q_32 h, q_33 h, q_34 h, q_37 h, q_38 h, q_39 h, q_40 h, ite_self, not_false_eq_true, not_true_eq_false, Nat.reduceEqDiff, reduceIte, true_and, and_true, false_and, and_false, ite_true, ite_false]; first | exact h15 | (intro j; have hj := h15 j; grind [zb, zo, zn, zlt_m1, zlt_0, zlt_1]) | grind [zb] | (funext b; grind [zb]))
  · first
    | exact h16
    | (simp only [F263, F342_0_148, G263, G342_0_148, M22, zup2, zup1, zite2, zite1, upd_r, zt_le (zn_mono (i_Tok_10 h) (by decide)), q_1_6 h, q_0_11 h, q_5_0 h, q_30 h, q_31 h, q_32 h, q_33 h, q_34 h, q_37 h, q_38 h, q_39 h, q_40 h, ite_self, not_false_eq_true, not_true_eq_false, Nat.reduceEqDiff, reduceIte, true_and, and_true, false_and, and_false, ite_true, ite_false]; done)
    | (simp only [F263, F342_0_148, G263, G342_0_148, M22, zup2, zup1, zite2, zite1, upd_r, zt_le (zn_mono (i_Tok_10 h) (by decide)), q_1_6 h, q_0_11 h, q_5_0 h, q_30 h, q_31 h, q_32 h, q_33 h, q_34 h, q_37 h, q_38 h, q_39 h, q_40 h, ite_self, not_false_eq_true, not_true_eq_false, Nat.reduceEqDiff, reduceIte, true_and, and_true, false_and, and_false, ite_true, ite_false]; first | exact h16 | (intro j; have hj := h16 j; grind [zb, zo, zn, zlt_m1, zlt_0, zlt_1]) | grind [zb] | (funext b; grind [zb]))
  · first
    | exact h17
    | (simp only [F263, F342_0_148, G263, G342_0_148, M22, zup2, zup1, zite2, zite1, upd_r, zt_le (zn_mono (i_Tok_10 h) (by decide)), q_1_6 h, q_0_11 h, q_5_0 h, q_30 h, q_31 h, q_32 h, q_33 h, q_34 h, q_37 h, q_38 h, q_39 h, q_40 h, ite_self, not_false_eq_true, not_true_eq_false, Nat.reduceEqDiff, reduceIte, true_and, and_true, false_and, and_false, ite_true, ite_false]; done)
    | (simp only [F263, F342_0_148, G263, G342_0_148, M22, zup2, zup1, zite2, zite1, upd_r, zt_le (zn_mono (i_Tok_10 h) (by decide)), q_1_6 h, q_0_11 h, q_5_0 h, q_30 h, q_31 h, q_32 h, q_33 h, q_34 h, q_37 h, q_38 h, q_39 h, q_40 h, ite_self, not_false_eq_true, not_true_eq_false, Nat.reduceEqDiff, reduceIte, true_and, and_true, false_and, and_false, ite_true, ite_false]; first | exact h17 | (intro j; have hj := h17 j; grind [zb, zo, zn, zlt_m1, zlt_0, zlt_1]) | grind [zb] | (funext b; grind [zb]))
  · first
    | exact h18
    | (simp only [F263, F342_0_148, G263, G342_0_148, M22, zup2, zup1, zite2, zite1, upd_r, zt_le (zn_mono (i_Tok_10 h) (by decide)), q_1_6 h, q_0_11 h, q_5_0 h, q_30 h, q_31 h, q_32 h, q_33 h, q_34 h, q_37 h, q_38 h, q_39 h, q_40 h, ite_self, not_false_eq_true, not_true_eq_false, Nat.reduceEqDiff, reduceIte, true_and, and_true, false_and, and_false, ite_true, ite_false]; done)
    | (simp only [F263, F342_0_148, G263, G342_0_148, M22, zup2, zup1, zite2, zite1, upd_r, zt_le (zn_mono (i_Tok_10 h) (by decide)), q_1_6 h, q_0_11 h, q_5_0 h, q_30 h, q_31 h, q_32 h, q_33 h, q_34 h, q_37 h, q_38 h, q_39 h, q_40 h, ite_self, not_false_eq_true, not_true_eq_false, Nat.reduceEqDiff, reduceIte, true_and, and_true, false_and, and_false, ite_true, ite_false]; first | exact h18 | (intro j; have hj := h18 j; grind [zb, zo, zn, zlt_m1, zlt_0, zlt_1]) | grind [zb] | (funext b; grind [zb]))
  · first
    | exact h19
    | (simp only [F263, F342_0_148, G263, G342_0_148, M22, zup2, zup1, zite2, zite1, upd_r, zt_le (zn_mono (i_Tok_10 h) (by decide)), q_1_6 h, q_0_11 h, q_5_0 h, q_30 h, q_31 h, q_32 h, q_33 h, q_34 h, q_37 h, q_38 h, q_39 h, q_40 h, ite_self, not_false_eq_true, not_true_eq_false, Nat.reduceEqDiff, reduceIte, true_and, and_true, false_and, and_false, ite_true, ite_false]; done)
    | (simp only [F263, F342_0_148, G263, G342_0_148, M22, zup2, zup1, zite2, zite1, upd_r, zt_le (zn_mono (i_Tok_10 h) (by decide)), q_1_6 h, q_0_11 h, q_5_0 h, q_30 h, q_31 h, q_32 h, q_33 h, q_34 h, q_37 h, q_38 h, q_39 h, q_40 h, ite_self, not_false_eq_true, not_true_eq_false, Nat.reduceEqDiff, reduceIte, true_and, and_true, false_and, and_false, ite_true, ite_false]; first | exact h19 | grind [zb] | (funext b; grind [zb]))

/-! call 24: the class and the reference answer alike (wip/whole/man/24.txt) -/
set_option maxHeartbeats 200000 in
theorem zyr24 {n : Nat} {S T : zS} (q1 : Int32) (h : zR n S T) : (zb (¬ ((¬ (q1 < 0)) ∧ (¬ (((T 13 45) - 1) < q1))))) = (F344_0_148 q1 S) ∧ ((F344_0_148 q1 S) = 0 → ((G344_0_148 q1 S) 148 0) = (if ((zb (¬ ((¬ (q1 < 0)) ∧ (¬ (((T 13 45) - 1) < q1))))) = 0) then ((T 117 q1.toNatClampNeg) : Int32) else 0)) := by
  first
  | (simp only [F344_0_148, G344_0_148, zup2, zup1, zite2, zite1, upd_r, zt_le (zn_mono (i_Tok_10 h) (by decide)), q_5_0 h, q_37 h, ite_self, not_false_eq_true, not_true_eq_false, Nat.reduceEqDiff, reduceIte, true_and, and_true, false_and, and_false, ite_true, ite_false]; done)
  | (simp only [F344_0_148, G344_0_148, zup2, zup1, zite2, zite1, upd_r, zt_le (zn_mono (i_Tok_10 h) (by decide)), q_5_0 h, q_37 h, ite_self, not_false_eq_true, not_true_eq_false, Nat.reduceEqDiff, reduceIte, true_and, and_true, false_and, and_false, ite_true, ite_false]; grind [zb])

/-! call 25: the class and the reference answer alike (wip/whole/man/25.txt) -/
set_option maxHeartbeats 200000 in
theorem zyr25 {n : Nat} {S T : zS} (q1 : Int32) (h : zR n S T) : (zb (¬ ((¬ (q1 < 0)) ∧ (¬ (((T 13 45) - 1) < q1))))) = (F345_0_148 q1 S) ∧ ((F345_0_148 q1 S) = 0 → ((G345_0_148 q1 S) 148 0) = (zb (((zb (¬ ((¬ (q1 < 0)) ∧ (¬ (((T 13 45) - 1) < q1))))) = 0) ∧ ((T 119 q1.toNatClampNeg) = 0)))) := by
  first
  | (simp only [F345_0_148, G345_0_148, zup2, zup1, zite2, zite1, upd_r, zt_le (zn_mono (i_Tok_10 h) (by decide)), q_5_0 h, q_40 h, ite_self, not_false_eq_true, not_true_eq_false, Nat.reduceEqDiff, reduceIte, true_and, and_true, false_and, and_false, ite_true, ite_false]; done)
  | (simp only [F345_0_148, G345_0_148, zup2, zup1, zite2, zite1, upd_r, zt_le (zn_mono (i_Tok_10 h) (by decide)), q_5_0 h, q_40 h, ite_self, not_false_eq_true, not_true_eq_false, Nat.reduceEqDiff, reduceIte, true_and, and_true, false_and, and_false, ite_true, ite_false]; grind [zb])

/-! call 31: the class and the reference answer alike (wip/whole/man/31.txt) -/
set_option maxHeartbeats 200000 in
theorem zyr31 {n : Nat} {S T : zS} (q1 : Int32) (q2 : Int32) (h : zR n S T) : ((G272 q1 q2 T) 13 0) = (F351_0_148 q1 q2 S) ∧ ((F351_0_148 q1 q2 S) = 0 → ((G351_0_148 q1 q2 S) 148 0) = (F272 q1 q2 T)) := by
  first
  | (simp only [F272, F351_0_148, G272, G351_0_148, zup2, zup1, zite2, zite1, upd_r, q_48 h, ite_self, not_false_eq_true, not_true_eq_false, Nat.reduceEqDiff, reduceIte, true_and, and_true, false_and, and_false, ite_true, ite_false]; done)
  | (simp only [F272, F351_0_148, G272, G351_0_148, zup2, zup1, zite2, zite1, upd_r, q_48 h, ite_self, not_false_eq_true, not_true_eq_false, Nat.reduceEqDiff, reduceIte, true_and, and_true, false_and, and_false, ite_true, ite_false]; grind [zb])
set_option maxHeartbeats 200000 in
theorem zyt31_Lea {n : Nat} {S T : zS} (q1 : Int32) (q2 : Int32) (hn : n < 512) (h : zR n S T) : zLea (G351_0_148 q1 q2 S) (M31 q1 q2 T) := by
  have hr := zR_Lea h
  unfold zLea at hr ⊢
  obtain ⟨h0, h1, h2, h3, h4, h5, h6, h7, h8, h9, h10, h11, h12, h13, h14, h15, h16, h17, h18⟩ := hr
  refine ⟨?_, ?_, ?_, ?_, ?_, ?_, ?_, ?_, ?_, ?_, ?_, ?_, ?_, ?_, ?_, ?_, ?_, ?_, ?_⟩
  · first
    | exact h0
    | (simp only [F272, F351_0_148, G272, G351_0_148, M31, zup2, zup1, zite2, zite1, upd_r, q_6_0 h, q_41 h, q_42 h, q_43 h, q_44 h, q_45 h, q_46 h, q_47 h, q_48 h, q_49 h, q_50 h, ite_self, not_false_eq_true, not_true_eq_false, Nat.reduceEqDiff, reduceIte, true_and, and_true, false_and, and_false, ite_true, ite_false]; done)
    | (simp only [F272, F351_0_148, G272, G351_0_148, M31, zup2, zup1, zite2, zite1, upd_r, q_6_0 h, q_41 h, q_42 h, q_43 h, q_44 h, q_45 h, q_46 h, q_47 h, q_48 h, q_49 h, q_50 h, ite_self, not_false_eq_true, not_true_eq_false, Nat.reduceEqDiff, reduceIte, true_and, and_true, false_and, and_false, ite_true, ite_false]; first | exact h0 | grind [zb] | (funext b; grind [zb]))
  · first
    | exact h1
    | (simp only [F272, F351_0_148, G272, G351_0_148, M31, zup2, zup1, zite2, zite1, upd_r, q_6_0 h, q_41 h, q_42 h, q_43 h, q_44 h, q_45 h, q_46 h, q_47 h, q_48 h, q_49 h, q_50 h, ite_self, not_false_eq_true, not_true_eq_false, Nat.reduceEqDiff, reduceIte, true_and, and_true, false_and, and_false, ite_true, ite_false]; done)
    | (simp only [F272, F351_0_148, G272, G351_0_148, M31, zup2, zup1, zite2, zite1, upd_r, q_6_0 h, q_41 h, q_42 h, q_43 h, q_44 h, q_45 h, q_46 h, q_47 h, q_48 h, q_49 h, q_50 h, ite_self, not_false_eq_true, not_true_eq_false, Nat.reduceEqDiff, reduceIte, true_and, and_true, false_and, and_false, ite_true, ite_false]; first | exact h1 | grind [zb] | (funext b; grind [zb]))
  · first
    | exact h2
    | (simp only [F272, F351_0_148, G272, G351_0_148, M31, zup2, zup1, zite2, zite1, upd_r, q_6_0 h, q_41 h, q_42 h, q_43 h, q_44 h, q_45 h, q_46 h, q_47 h, q_48 h, q_49 h, q_50 h, ite_self, not_false_eq_true, not_true_eq_false, Nat.reduceEqDiff, reduceIte, true_and, and_true, false_and, and_false, ite_true, ite_false]; done)
    | (simp only [F272, F351_0_148, G272, G351_0_148, M31, zup2, zup1, zite2, zite1, upd_r, q_6_0 h, q_41 h, q_42 h, q_43 h, q_44 h, q_45 h, q_46 h, q_47 h, q_48 h, q_49 h, q_50 h, ite_self, not_false_eq_true, not_true_eq_false, Nat.reduceEqDiff, reduceIte, true_and, and_true, false_and, and_false, ite_true, ite_false]; first | exact h2 | grind [zb] | (funext b; grind [zb]))
  · first
    | exact h3
    | (simp only [F272, F351_0_148, G272, G351_0_148, M31, zup2, zup1, zite2, zite1, upd_r, q_6_0 h, q_41 h, q_42 h, q_43 h, q_44 h, q_45 h, q_46 h, q_47 h, q_48 h, q_49 h, q_50 h, ite_self, not_false_eq_true, not_true_eq_false, Nat.reduceEqDiff, reduceIte, true_and, and_true, false_and, and_false, ite_true, ite_false]; done)
    | (simp only [F272, F351_0_148, G272, G351_0_148, M31, zup2, zup1, zite2, zite1, upd_r, q_6_0 h, q_41 h, q_42 h, q_43 h, q_44 h, q_45 h, q_46 h, q_47 h, q_48 h, q_49 h, q_50 h, ite_self, not_false_eq_true, not_true_eq_false, Nat.reduceEqDiff, reduceIte, true_and, and_true, false_and, and_false, ite_true, ite_false]; first | exact h3 | grind [zb] | (funext b; grind [zb]))
  · first
    | exact h4
    | (simp only [F272, F351_0_148, G272, G351_0_148, M31, zup2, zup1, zite2, zite1, upd_r, q_6_0 h, q_41 h, q_42 h, q_43 h, q_44 h, q_45 h, q_46 h, q_47 h, q_48 h, q_49 h, q_50 h, ite_self, not_false_eq_true, not_true_eq_false, Nat.reduceEqDiff, reduceIte, true_and, and_true, false_and, and_false, ite_true, ite_false]; done)
    | (simp only [F272, F351_0_148, G272, G351_0_148, M31, zup2, zup1, zite2, zite1, upd_r, q_6_0 h, q_41 h, q_42 h, q_43 h, q_44 h, q_45 h, q_46 h, q_47 h, q_48 h, q_49 h, q_50 h, ite_self, not_false_eq_true, not_true_eq_false, Nat.reduceEqDiff, reduceIte, true_and, and_true, false_and, and_false, ite_true, ite_false]; first | exact h4 | grind [zb] | (funext b; grind [zb]))
  · first
    | exact h5
    | (simp only [F272, F351_0_148, G272, G351_0_148, M31, zup2, zup1, zite2, zite1, upd_r, q_6_0 h, q_41 h, q_42 h, q_43 h, q_44 h, q_45 h, q_46 h, q_47 h, q_48 h, q_49 h, q_50 h, ite_self, not_false_eq_true, not_true_eq_false, Nat.reduceEqDiff, reduceIte, true_and, and_true, false_and, and_false, ite_true, ite_false]; done)
    | (simp only [F272, F351_0_148, G272, G351_0_148, M31, zup2, zup1, zite2, zite1, upd_r, q_6_0 h, q_41 h, q_42 h, q_43 h, q_44 h, q_45 h, q_46 h, q_47 h, q_48 h, q_49 h, q_50 h, ite_self, not_false_eq_true, not_true_eq_false, Nat.reduceEqDiff, reduceIte, true_and, and_true, false_and, and_false, ite_true, ite_false]; first | exact h5 | grind [zb] | (funext b; grind [zb]))
  · first
    | exact h6
    | (simp only [F272, F351_0_148, G272, G351_0_148, M31, zup2, zup1, zite2, zite1, upd_r, q_6_0 h, q_41 h, q_42 h, q_43 h, q_44 h, q_45 h, q_46 h, q_47 h, q_48 h, q_49 h, q_50 h, ite_self, not_false_eq_true, not_true_eq_false, Nat.reduceEqDiff, reduceIte, true_and, and_true, false_and, and_false, ite_true, ite_false]; done)
    | (simp only [F272, F351_0_148, G272, G351_0_148, M31, zup2, zup1, zite2, zite1, upd_r, q_6_0 h, q_41 h, q_42 h, q_43 h, q_44 h, q_45 h, q_46 h, q_47 h, q_48 h, q_49 h, q_50 h, ite_self, not_false_eq_true, not_true_eq_false, Nat.reduceEqDiff, reduceIte, true_and, and_true, false_and, and_false, ite_true, ite_false]; first | exact h6 | grind [zb] | (funext b; grind [zb]))
  · first
    | exact h7
    | (simp only [F272, F351_0_148, G272, G351_0_148, M31, zup2, zup1, zite2, zite1, upd_r, q_6_0 h, q_41 h, q_42 h, q_43 h, q_44 h, q_45 h, q_46 h, q_47 h, q_48 h, q_49 h, q_50 h, ite_self, not_false_eq_true, not_true_eq_false, Nat.reduceEqDiff, reduceIte, true_and, and_true, false_and, and_false, ite_true, ite_false]; done)
    | (simp only [F272, F351_0_148, G272, G351_0_148, M31, zup2, zup1, zite2, zite1, upd_r, q_6_0 h, q_41 h, q_42 h, q_43 h, q_44 h, q_45 h, q_46 h, q_47 h, q_48 h, q_49 h, q_50 h, ite_self, not_false_eq_true, not_true_eq_false, Nat.reduceEqDiff, reduceIte, true_and, and_true, false_and, and_false, ite_true, ite_false]; first | exact h7 | grind [zb] | (funext b; grind [zb]))
  · first
    | exact h8
    | (simp only [F272, F351_0_148, G272, G351_0_148, M31, zup2, zup1, zite2, zite1, upd_r, q_6_0 h, q_41 h, q_42 h, q_43 h, q_44 h, q_45 h, q_46 h, q_47 h, q_48 h, q_49 h, q_50 h, ite_self, not_false_eq_true, not_true_eq_false, Nat.reduceEqDiff, reduceIte, true_and, and_true, false_and, and_false, ite_true, ite_false]; done)
    | (simp only [F272, F351_0_148, G272, G351_0_148, M31, zup2, zup1, zite2, zite1, upd_r, q_6_0 h, q_41 h, q_42 h, q_43 h, q_44 h, q_45 h, q_46 h, q_47 h, q_48 h, q_49 h, q_50 h, ite_self, not_false_eq_true, not_true_eq_false, Nat.reduceEqDiff, reduceIte, true_and, and_true, false_and, and_false, ite_true, ite_false]; first | exact h8 | grind [zb] | (funext b; grind [zb]))
  · first
    | exact h9
    | (simp only [F272, F351_0_148, G272, G351_0_148, M31, zup2, zup1, zite2, zite1, upd_r, q_6_0 h, q_41 h, q_42 h, q_43 h, q_44 h, q_45 h, q_46 h, q_47 h, q_48 h, q_49 h, q_50 h, ite_self, not_false_eq_true, not_true_eq_false, Nat.reduceEqDiff, reduceIte, true_and, and_true, false_and, and_false, ite_true, ite_false]; done)
    | (simp only [F272, F351_0_148, G272, G351_0_148, M31, zup2, zup1, zite2, zite1, upd_r, q_6_0 h, q_41 h, q_42 h, q_43 h, q_44 h, q_45 h, q_46 h, q_47 h, q_48 h, q_49 h, q_50 h, ite_self, not_false_eq_true, not_true_eq_false, Nat.reduceEqDiff, reduceIte, true_and, and_true, false_and, and_false, ite_true, ite_false]; first | exact h9 | grind [zb] | (funext b; grind [zb]))
  · first
    | exact h10
    | (simp only [F272, F351_0_148, G272, G351_0_148, M31, zup2, zup1, zite2, zite1, upd_r, q_6_0 h, q_41 h, q_42 h, q_43 h, q_44 h, q_45 h, q_46 h, q_47 h, q_48 h, q_49 h, q_50 h, ite_self, not_false_eq_true, not_true_eq_false, Nat.reduceEqDiff, reduceIte, true_and, and_true, false_and, and_false, ite_true, ite_false]; done)
    | (simp only [F272, F351_0_148, G272, G351_0_148, M31, zup2, zup1, zite2, zite1, upd_r, q_6_0 h, q_41 h, q_42 h, q_43 h, q_44 h, q_45 h, q_46 h, q_47 h, q_48 h, q_49 h, q_50 h, ite_self, not_false_eq_true, not_true_eq_false, Nat.reduceEqDiff, reduceIte, true_and, and_true, false_and, and_false, ite_true, ite_false]; first | exact h10 | grind [zb] | (funext b; grind [zb]))
  · first
    | exact h11
    | (simp only [F272, F351_0_148, G272, G351_0_148, M31, zup2, zup1, zite2, zite1, upd_r, q_6_0 h, q_41 h, q_42 h, q_43 h, q_44 h, q_45 h, q_46 h, q_47 h, q_48 h, q_49 h, q_50 h, ite_self, not_false_eq_true, not_true_eq_false, Nat.reduceEqDiff, reduceIte, true_and, and_true, false_and, and_false, ite_true, ite_false]; done)
    | (simp only [F272, F351_0_148, G272, G351_0_148, M31, zup2, zup1, zite2, zite1, upd_r, q_6_0 h, q_41 h, q_42 h, q_43 h, q_44 h, q_45 h, q_46 h, q_47 h, q_48 h, q_49 h, q_50 h, ite_self, not_false_eq_true, not_true_eq_false, Nat.reduceEqDiff, reduceIte, true_and, and_true, false_and, and_false, ite_true, ite_false]; first | exact h11 | grind [zb] | (funext b; grind [zb]))
  · first
    | exact h12
    | (simp only [F272, F351_0_148, G272, G351_0_148, M31, zup2, zup1, zite2, zite1, upd_r, q_6_0 h, q_41 h, q_42 h, q_43 h, q_44 h, q_45 h, q_46 h, q_47 h, q_48 h, q_49 h, q_50 h, ite_self, not_false_eq_true, not_true_eq_false, Nat.reduceEqDiff, reduceIte, true_and, and_true, false_and, and_false, ite_true, ite_false]; done)
    | (simp only [F272, F351_0_148, G272, G351_0_148, M31, zup2, zup1, zite2, zite1, upd_r, q_6_0 h, q_41 h, q_42 h, q_43 h, q_44 h, q_45 h, q_46 h, q_47 h, q_48 h, q_49 h, q_50 h, ite_self, not_false_eq_true, not_true_eq_false, Nat.reduceEqDiff, reduceIte, true_and, and_true, false_and, and_false, ite_true, ite_false]; first | exact h12 | grind [zb] | (funext b; grind [zb]))
  · first
    | exact h13
    | (simp only [F272, F351_0_148, G272, G351_0_148, M31, zup2, zup1, zite2, zite1, upd_r, q_6_0 h, q_41 h, q_42 h, q_43 h, q_44 h, q_45 h, q_46 h, q_47 h, q_48 h, q_49 h, q_50 h, ite_self, not_false_eq_true, not_true_eq_false, Nat.reduceEqDiff, reduceIte, true_and, and_true, false_and, and_false, ite_true, ite_false]; done)
    | (simp only [F272, F351_0_148, G272, G351_0_148, M31, zup2, zup1, zite2, zite1, upd_r, q_6_0 h, q_41 h, q_42 h, q_43 h, q_44 h, q_45 h, q_46 h, q_47 h, q_48 h, q_49 h, q_50 h, ite_self, not_false_eq_true, not_true_eq_false, Nat.reduceEqDiff, reduceIte, true_and, and_true, false_and, and_false, ite_true, ite_false]; first | exact h13 | grind [zb] | (funext b; grind [zb]))
  · first
    | exact h14
    | (simp only [F272, F351_0_148, G272, G351_0_148, M31, zup2, zup1, zite2, zite1, upd_r, q_6_0 h, q_41 h, q_42 h, q_43 h, q_44 h, q_45 h, q_46 h, q_47 h, q_48 h, q_49 h, q_50 h, ite_self, not_false_eq_true, not_true_eq_false, Nat.reduceEqDiff, reduceIte, true_and, and_true, false_and, and_false, ite_true, ite_false]; done)
    | (simp only [F272, F351_0_148, G272, G351_0_148, M31, zup2, zup1, zite2, zite1, upd_r, q_6_0 h, q_41 h, q_42 h, q_43 h, q_44 h, q_45 h, q_46 h, q_47 h, q_48 h, q_49 h, q_50 h, ite_self, not_false_eq_true, not_true_eq_false, Nat.reduceEqDiff, reduceIte, true_and, and_true, false_and, and_false, ite_true, ite_false]; first | exact h14 | grind [zb] | (funext b; grind [zb]))
  · first
    | exact h15
    | (simp only [F272, F351_0_148, G272, G351_0_148, M31, zup2, zup1, zite2, zite1, upd_r, q_6_0 h, q_41 h, q_42 h, q_43 h, q_44 h, q_45 h, q_46 h, q_47 h, q_48 h, q_49 h, q_50 h, ite_self, not_false_eq_true, not_true_eq_false, Nat.reduceEqDiff, reduceIte, true_and, and_true, false_and, and_false, ite_true, ite_false]; done)
    | (simp only [F272, F351_0_148, G272, G351_0_148, M31, zup2, zup1, zite2, zite1, upd_r, q_6_0 h, q_41 h, q_42 h, q_43 h, q_44 h, q_45 h, q_46 h, q_47 h, q_48 h, q_49 h, q_50 h, ite_self, not_false_eq_true, not_true_eq_false, Nat.reduceEqDiff, reduceIte, true_and, and_true, false_and, and_false, ite_true, ite_false]; first | exact h15 | (intro j; have hj := h15 j; grind [zb, zo, zn, zlt_m1, zlt_0, zlt_1]) | grind [zb] | (funext b; grind [zb]))
  · first
    | exact h16
    | (simp only [F272, F351_0_148, G272, G351_0_148, M31, zup2, zup1, zite2, zite1, upd_r, q_6_0 h, q_41 h, q_42 h, q_43 h, q_44 h, q_45 h, q_46 h, q_47 h, q_48 h, q_49 h, q_50 h, ite_self, not_false_eq_true, not_true_eq_false, Nat.reduceEqDiff, reduceIte, true_and, and_true, false_and, and_false, ite_true, ite_false]; done)
    | (simp only [F272, F351_0_148, G272, G351_0_148, M31, zup2, zup1, zite2, zite1, upd_r, q_6_0 h, q_41 h, q_42 h, q_43 h, q_44 h, q_45 h, q_46 h, q_47 h, q_48 h, q_49 h, q_50 h, ite_self, not_false_eq_true, not_true_eq_false, Nat.reduceEqDiff, reduceIte, true_and, and_true, false_and, and_false, ite_true, ite_false]; first | exact h16 | (intro j; have hj := h16 j; grind [zb, zo, zn, zlt_m1, zlt_0, zlt_1]) | grind [zb] | (funext b; grind [zb]))
  · first
    | exact h17
    | (simp only [F272, F351_0_148, G272, G351_0_148, M31, zup2, zup1, zite2, zite1, upd_r, q_6_0 h, q_41 h, q_42 h, q_43 h, q_44 h, q_45 h, q_46 h, q_47 h, q_48 h, q_49 h, q_50 h, ite_self, not_false_eq_true, not_true_eq_false, Nat.reduceEqDiff, reduceIte, true_and, and_true, false_and, and_false, ite_true, ite_false]; done)
    | (simp only [F272, F351_0_148, G272, G351_0_148, M31, zup2, zup1, zite2, zite1, upd_r, q_6_0 h, q_41 h, q_42 h, q_43 h, q_44 h, q_45 h, q_46 h, q_47 h, q_48 h, q_49 h, q_50 h, ite_self, not_false_eq_true, not_true_eq_false, Nat.reduceEqDiff, reduceIte, true_and, and_true, false_and, and_false, ite_true, ite_false]; first | exact h17 | (intro j; have hj := h17 j; grind [zb, zo, zn, zlt_m1, zlt_0, zlt_1]) | grind [zb] | (funext b; grind [zb]))
  · first
    | exact h18
    | (simp only [F272, F351_0_148, G272, G351_0_148, M31, zup2, zup1, zite2, zite1, upd_r, q_6_0 h, q_41 h, q_42 h, q_43 h, q_44 h, q_45 h, q_46 h, q_47 h, q_48 h, q_49 h, q_50 h, ite_self, not_false_eq_true, not_true_eq_false, Nat.reduceEqDiff, reduceIte, true_and, and_true, false_and, and_false, ite_true, ite_false]; done)
    | (simp only [F272, F351_0_148, G272, G351_0_148, M31, zup2, zup1, zite2, zite1, upd_r, q_6_0 h, q_41 h, q_42 h, q_43 h, q_44 h, q_45 h, q_46 h, q_47 h, q_48 h, q_49 h, q_50 h, ite_self, not_false_eq_true, not_true_eq_false, Nat.reduceEqDiff, reduceIte, true_and, and_true, false_and, and_false, ite_true, ite_false]; first | exact h18 | (intro j; have hj := h18 j; grind [zb, zo, zn, zlt_m1, zlt_0, zlt_1]) | grind [zb] | (funext b; grind [zb]))

/-! call 33: the class and the reference answer alike (wip/whole/man/33.txt) -/
set_option maxHeartbeats 200000 in
theorem zyr33 {n : Nat} {S T : zS} (q1 : Int32) (q2 : Int32) (h : zR n S T) : ((G274 q1 q2 T) 13 0) = (F353_0_148 q1 q2 S) ∧ ((F353_0_148 q1 q2 S) = 0 → ((G353_0_148 q1 q2 S) 148 0) = (F274 q1 q2 T)) := by
  first
  | (simp only [F274, F353_0_148, G274, G353_0_148, zup2, zup1, zite2, zite1, upd_r, zt_le (zn_mono (i_Lea_11 h) (by decide)), q_1_6 h, q_0_11 h, q_34 h, q_6_0 h, q_41 h, q_44 h, q_45 h, q_46 h, ite_self, not_false_eq_true, not_true_eq_false, Nat.reduceEqDiff, reduceIte, true_and, and_true, false_and, and_false, ite_true, ite_false]; done)
  | (simp only [F274, F353_0_148, G274, G353_0_148, zup2, zup1, zite2, zite1, upd_r, zt_le (zn_mono (i_Lea_11 h) (by decide)), q_1_6 h, q_0_11 h, q_34 h, q_6_0 h, q_41 h, q_44 h, q_45 h, q_46 h, ite_self, not_false_eq_true, not_true_eq_false, Nat.reduceEqDiff, reduceIte, true_and, and_true, false_and, and_false, ite_true, ite_false]; grind [zb])
set_option maxHeartbeats 200000 in
theorem zyt33_Lea {n : Nat} {S T : zS} (q1 : Int32) (q2 : Int32) (hn : n < 512) (h : zR n S T) : zLea (G353_0_148 q1 q2 S) (M33 q1 q2 T) := by
  have hr := zR_Lea h
  unfold zLea at hr ⊢
  obtain ⟨h0, h1, h2, h3, h4, h5, h6, h7, h8, h9, h10, h11, h12, h13, h14, h15, h16, h17, h18⟩ := hr
  refine ⟨?_, ?_, ?_, ?_, ?_, ?_, ?_, ?_, ?_, ?_, ?_, ?_, ?_, ?_, ?_, ?_, ?_, ?_, ?_⟩
  · first
    | exact h0
    | (simp only [F274, F353_0_148, G274, G353_0_148, M33, zup2, zup1, zite2, zite1, upd_r, zt_le (zn_mono (i_Lea_11 h) (by decide)), q_1_6 h, q_0_11 h, q_34 h, q_6_0 h, q_41 h, q_42 h, q_43 h, q_44 h, q_45 h, q_46 h, q_47 h, q_48 h, q_49 h, q_50 h, ite_self, not_false_eq_true, not_true_eq_false, Nat.reduceEqDiff, reduceIte, true_and, and_true, false_and, and_false, ite_true, ite_false]; done)
    | (simp only [F274, F353_0_148, G274, G353_0_148, M33, zup2, zup1, zite2, zite1, upd_r, zt_le (zn_mono (i_Lea_11 h) (by decide)), q_1_6 h, q_0_11 h, q_34 h, q_6_0 h, q_41 h, q_42 h, q_43 h, q_44 h, q_45 h, q_46 h, q_47 h, q_48 h, q_49 h, q_50 h, ite_self, not_false_eq_true, not_true_eq_false, Nat.reduceEqDiff, reduceIte, true_and, and_true, false_and, and_false, ite_true, ite_false]; first | exact h0 | grind [zb] | (funext b; grind [zb]))
  · first
    | exact h1
    | (simp only [F274, F353_0_148, G274, G353_0_148, M33, zup2, zup1, zite2, zite1, upd_r, zt_le (zn_mono (i_Lea_11 h) (by decide)), q_1_6 h, q_0_11 h, q_34 h, q_6_0 h, q_41 h, q_42 h, q_43 h, q_44 h, q_45 h, q_46 h, q_47 h, q_48 h, q_49 h, q_50 h, ite_self, not_false_eq_true, not_true_eq_false, Nat.reduceEqDiff, reduceIte, true_and, and_true, false_and, and_false, ite_true, ite_false]; done)
    | (simp only [F274, F353_0_148, G274, G353_0_148, M33, zup2, zup1, zite2, zite1, upd_r, zt_le (zn_mono (i_Lea_11 h) (by decide)), q_1_6 h, q_0_11 h, q_34 h, q_6_0 h, q_41 h, q_42 h, q_43 h, q_44 h, q_45 h, q_46 h, q_47 h, q_48 h, q_49 h, q_50 h, ite_self, not_false_eq_true, not_true_eq_false, Nat.reduceEqDiff, reduceIte, true_and, and_true, false_and, and_false, ite_true, ite_false]; first | exact h1 | grind [zb] | (funext b; grind [zb]))
  · first
    | exact h2
    | (simp only [F274, F353_0_148, G274, G353_0_148, M33, zup2, zup1, zite2, zite1, upd_r, zt_le (zn_mono (i_Lea_11 h) (by decide)), q_1_6 h, q_0_11 h, q_34 h, q_6_0 h, q_41 h, q_42 h, q_43 h, q_44 h, q_45 h, q_46 h, q_47 h, q_48 h, q_49 h, q_50 h, ite_self, not_false_eq_true, not_true_eq_false, Nat.reduceEqDiff, reduceIte, true_and, and_true, false_and, and_false, ite_true, ite_false]; done)
    | (simp only [F274, F353_0_148, G274, G353_0_148, M33, zup2, zup1, zite2, zite1, upd_r, zt_le (zn_mono (i_Lea_11 h) (by decide)), q_1_6 h, q_0_11 h, q_34 h, q_6_0 h, q_41 h, q_42 h, q_43 h, q_44 h, q_45 h, q_46 h, q_47 h, q_48 h, q_49 h, q_50 h, ite_self, not_false_eq_true, not_true_eq_false, Nat.reduceEqDiff, reduceIte, true_and, and_true, false_and, and_false, ite_true, ite_false]; first | exact h2 | grind [zb] | (funext b; grind [zb]))
  · first
    | exact h3
    | (simp only [F274, F353_0_148, G274, G353_0_148, M33, zup2, zup1, zite2, zite1, upd_r, zt_le (zn_mono (i_Lea_11 h) (by decide)), q_1_6 h, q_0_11 h, q_34 h, q_6_0 h, q_41 h, q_42 h, q_43 h, q_44 h, q_45 h, q_46 h, q_47 h, q_48 h, q_49 h, q_50 h, ite_self, not_false_eq_true, not_true_eq_false, Nat.reduceEqDiff, reduceIte, true_and, and_true, false_and, and_false, ite_true, ite_false]; done)
    | (simp only [F274, F353_0_148, G274, G353_0_148, M33, zup2, zup1, zite2, zite1, upd_r, zt_le (zn_mono (i_Lea_11 h) (by decide)), q_1_6 h, q_0_11 h, q_34 h, q_6_0 h, q_41 h, q_42 h, q_43 h, q_44 h, q_45 h, q_46 h, q_47 h, q_48 h, q_49 h, q_50 h, ite_self, not_false_eq_true, not_true_eq_false, Nat.reduceEqDiff, reduceIte, true_and, and_true, false_and, and_false, ite_true, ite_false]; first | exact h3 | grind [zb] | (funext b; grind [zb]))
  · first
    | exact h4
    | (simp only [F274, F353_0_148, G274, G353_0_148, M33, zup2, zup1, zite2, zite1, upd_r, zt_le (zn_mono (i_Lea_11 h) (by decide)), q_1_6 h, q_0_11 h, q_34 h, q_6_0 h, q_41 h, q_42 h, q_43 h, q_44 h, q_45 h, q_46 h, q_47 h, q_48 h, q_49 h, q_50 h, ite_self, not_false_eq_true, not_true_eq_false, Nat.reduceEqDiff, reduceIte, true_and, and_true, false_and, and_false, ite_true, ite_false]; done)
    | (simp only [F274, F353_0_148, G274, G353_0_148, M33, zup2, zup1, zite2, zite1, upd_r, zt_le (zn_mono (i_Lea_11 h) (by decide)), q_1_6 h, q_0_11 h, q_34 h, q_6_0 h, q_41 h, q_42 h, q_43 h, q_44 h, q_45 h, q_46 h, q_47 h, q_48 h, q_49 h, q_50 h, ite_self, not_false_eq_true, not_true_eq_false, Nat.reduceEqDiff, reduceIte, true_and, and_true, false_and, and_false, ite_true, ite_false]; first | exact h4 | grind [zb] | (funext b; grind [zb]))
  · first
    | exact h5
    | (simp only [F274, F353_0_148, G274, G353_0_148, M33, zup2, zup1, zite2, zite1, upd_r, zt_le (zn_mono (i_Lea_11 h) (by decide)), q_1_6 h, q_0_11 h, q_34 h, q_6_0 h, q_41 h, q_42 h, q_43 h, q_44 h, q_45 h, q_46 h, q_47 h, q_48 h, q_49 h, q_50 h, ite_self, not_false_eq_true, not_true_eq_false, Nat.reduceEqDiff, reduceIte, true_and, and_true, false_and, and_false, ite_true, ite_false]; done)
    | (simp only [F274, F353_0_148, G274, G353_0_148, M33, zup2, zup1, zite2, zite1, upd_r, zt_le (zn_mono (i_Lea_11 h) (by decide)), q_1_6 h, q_0_11 h, q_34 h, q_6_0 h, q_41 h, q_42 h, q_43 h, q_44 h, q_45 h, q_46 h, q_47 h, q_48 h, q_49 h, q_50 h, ite_self, not_false_eq_true, not_true_eq_false, Nat.reduceEqDiff, reduceIte, true_and, and_true, false_and, and_false, ite_true, ite_false]; first | exact h5 | grind [zb] | (funext b; grind [zb]))
  · first
    | exact h6
    | (simp only [F274, F353_0_148, G274, G353_0_148, M33, zup2, zup1, zite2, zite1, upd_r, zt_le (zn_mono (i_Lea_11 h) (by decide)), q_1_6 h, q_0_11 h, q_34 h, q_6_0 h, q_41 h, q_42 h, q_43 h, q_44 h, q_45 h, q_46 h, q_47 h, q_48 h, q_49 h, q_50 h, ite_self, not_false_eq_true, not_true_eq_false, Nat.reduceEqDiff, reduceIte, true_and, and_true, false_and, and_false, ite_true, ite_false]; done)
    | (simp only [F274, F353_0_148, G274, G353_0_148, M33, zup2, zup1, zite2, zite1, upd_r, zt_le (zn_mono (i_Lea_11 h) (by decide)), q_1_6 h, q_0_11 h, q_34 h, q_6_0 h, q_41 h, q_42 h, q_43 h, q_44 h, q_45 h, q_46 h, q_47 h, q_48 h, q_49 h, q_50 h, ite_self, not_false_eq_true, not_true_eq_false, Nat.reduceEqDiff, reduceIte, true_and, and_true, false_and, and_false, ite_true, ite_false]; first | exact h6 | grind [zb] | (funext b; grind [zb]))
  · first
    | exact h7
    | (simp only [F274, F353_0_148, G274, G353_0_148, M33, zup2, zup1, zite2, zite1, upd_r, zt_le (zn_mono (i_Lea_11 h) (by decide)), q_1_6 h, q_0_11 h, q_34 h, q_6_0 h, q_41 h, q_42 h, q_43 h, q_44 h, q_45 h, q_46 h, q_47 h, q_48 h, q_49 h, q_50 h, ite_self, not_false_eq_true, not_true_eq_false, Nat.reduceEqDiff, reduceIte, true_and, and_true, false_and, and_false, ite_true, ite_false]; done)
    | (simp only [F274, F353_0_148, G274, G353_0_148, M33, zup2, zup1, zite2, zite1, upd_r, zt_le (zn_mono (i_Lea_11 h) (by decide)), q_1_6 h, q_0_11 h, q_34 h, q_6_0 h, q_41 h, q_42 h, q_43 h, q_44 h, q_45 h, q_46 h, q_47 h, q_48 h, q_49 h, q_50 h, ite_self, not_false_eq_true, not_true_eq_false, Nat.reduceEqDiff, reduceIte, true_and, and_true, false_and, and_false, ite_true, ite_false]; first | exact h7 | grind [zb] | (funext b; grind [zb]))
  · first
    | exact h8
    | (simp only [F274, F353_0_148, G274, G353_0_148, M33, zup2, zup1, zite2, zite1, upd_r, zt_le (zn_mono (i_Lea_11 h) (by decide)), q_1_6 h, q_0_11 h, q_34 h, q_6_0 h, q_41 h, q_42 h, q_43 h, q_44 h, q_45 h, q_46 h, q_47 h, q_48 h, q_49 h, q_50 h, ite_self, not_false_eq_true, not_true_eq_false, Nat.reduceEqDiff, reduceIte, true_and, and_true, false_and, and_false, ite_true, ite_false]; done)
    | (simp only [F274, F353_0_148, G274, G353_0_148, M33, zup2, zup1, zite2, zite1, upd_r, zt_le (zn_mono (i_Lea_11 h) (by decide)), q_1_6 h, q_0_11 h, q_34 h, q_6_0 h, q_41 h, q_42 h, q_43 h, q_44 h, q_45 h, q_46 h, q_47 h, q_48 h, q_49 h, q_50 h, ite_self, not_false_eq_true, not_true_eq_false, Nat.reduceEqDiff, reduceIte, true_and, and_true, false_and, and_false, ite_true, ite_false]; first | exact h8 | grind [zb] | (funext b; grind [zb]))
  · first
    | exact h9
    | (simp only [F274, F353_0_148, G274, G353_0_148, M33, zup2, zup1, zite2, zite1, upd_r, zt_le (zn_mono (i_Lea_11 h) (by decide)), q_1_6 h, q_0_11 h, q_34 h, q_6_0 h, q_41 h, q_42 h, q_43 h, q_44 h, q_45 h, q_46 h, q_47 h, q_48 h, q_49 h, q_50 h, ite_self, not_false_eq_true, not_true_eq_false, Nat.reduceEqDiff, reduceIte, true_and, and_true, false_and, and_false, ite_true, ite_false]; done)
    | (simp only [F274, F353_0_148, G274, G353_0_148, M33, zup2, zup1, zite2, zite1, upd_r, zt_le (zn_mono (i_Lea_11 h) (by decide)), q_1_6 h, q_0_11 h, q_34 h, q_6_0 h, q_41 h, q_42 h, q_43 h, q_44 h, q_45 h, q_46 h, q_47 h, q_48 h, q_49 h, q_50 h, ite_self, not_false_eq_true, not_true_eq_false, Nat.reduceEqDiff, reduceIte, true_and, and_true, false_and, and_false, ite_true, ite_false]; first | exact h9 | grind [zb] | (funext b; grind [zb]))
  · first
    | exact h10
    | (simp only [F274, F353_0_148, G274, G353_0_148, M33, zup2, zup1, zite2, zite1, upd_r, zt_le (zn_mono (i_Lea_11 h) (by decide)), q_1_6 h, q_0_11 h, q_34 h, q_6_0 h, q_41 h, q_42 h, q_43 h, q_44 h, q_45 h, q_46 h, q_47 h, q_48 h, q_49 h, q_50 h, ite_self, not_false_eq_true, not_true_eq_false, Nat.reduceEqDiff, reduceIte, true_and, and_true, false_and, and_false, ite_true, ite_false]; done)
    | (simp only [F274, F353_0_148, G274, G353_0_148, M33, zup2, zup1, zite2, zite1, upd_r, zt_le (zn_mono (i_Lea_11 h) (by decide)), q_1_6 h, q_0_11 h, q_34 h, q_6_0 h, q_41 h, q_42 h, q_43 h, q_44 h, q_45 h, q_46 h, q_47 h, q_48 h, q_49 h, q_50 h, ite_self, not_false_eq_true, not_true_eq_false, Nat.reduceEqDiff, reduceIte, true_and, and_true, false_and, and_false, ite_true, ite_false]; first | exact h10 | grind [zb] | (funext b; grind [zb]))
  · first
    | exact h11
    | (simp only [F274, F353_0_148, G274, G353_0_148, M33, zup2, zup1, zite2, zite1, upd_r, zt_le (zn_mono (i_Lea_11 h) (by decide)), q_1_6 h, q_0_11 h, q_34 h, q_6_0 h, q_41 h, q_42 h, q_43 h, q_44 h, q_45 h, q_46 h, q_47 h, q_48 h, q_49 h, q_50 h, ite_self, not_false_eq_true, not_true_eq_false, Nat.reduceEqDiff, reduceIte, true_and, and_true, false_and, and_false, ite_true, ite_false]; done)
    | (simp only [F274, F353_0_148, G274, G353_0_148, M33, zup2, zup1, zite2, zite1, upd_r, zt_le (zn_mono (i_Lea_11 h) (by decide)), q_1_6 h, q_0_11 h, q_34 h, q_6_0 h, q_41 h, q_42 h, q_43 h, q_44 h, q_45 h, q_46 h, q_47 h, q_48 h, q_49 h, q_50 h, ite_self, not_false_eq_true, not_true_eq_false, Nat.reduceEqDiff, reduceIte, true_and, and_true, false_and, and_false, ite_true, ite_false]; first | exact h11 | grind [zb] | (funext b; grind [zb]))
  · first
    | exact h12
    | (simp only [F274, F353_0_148, G274, G353_0_148, M33, zup2, zup1, zite2, zite1, upd_r, zt_le (zn_mono (i_Lea_11 h) (by decide)), q_1_6 h, q_0_11 h, q_34 h, q_6_0 h, q_41 h, q_42 h, q_43 h, q_44 h, q_45 h, q_46 h, q_47 h, q_48 h, q_49 h, q_50 h, ite_self, not_false_eq_true, not_true_eq_false, Nat.reduceEqDiff, reduceIte, true_and, and_true, false_and, and_false, ite_true, ite_false]; done)
    | (simp only [F274, F353_0_148, G274, G353_0_148, M33, zup2, zup1, zite2, zite1, upd_r, zt_le (zn_mono (i_Lea_11 h) (by decide)), q_1_6 h, q_0_11 h, q_34 h, q_6_0 h, q_41 h, q_42 h, q_43 h, q_44 h, q_45 h, q_46 h, q_47 h, q_48 h, q_49 h, q_50 h, ite_self, not_false_eq_true, not_true_eq_false, Nat.reduceEqDiff, reduceIte, true_and, and_true, false_and, and_false, ite_true, ite_false]; first | exact h12 | grind [zb] | (funext b; grind [zb]))
  · first
    | exact h13
    | (simp only [F274, F353_0_148, G274, G353_0_148, M33, zup2, zup1, zite2, zite1, upd_r, zt_le (zn_mono (i_Lea_11 h) (by decide)), q_1_6 h, q_0_11 h, q_34 h, q_6_0 h, q_41 h, q_42 h, q_43 h, q_44 h, q_45 h, q_46 h, q_47 h, q_48 h, q_49 h, q_50 h, ite_self, not_false_eq_true, not_true_eq_false, Nat.reduceEqDiff, reduceIte, true_and, and_true, false_and, and_false, ite_true, ite_false]; done)
    | (simp only [F274, F353_0_148, G274, G353_0_148, M33, zup2, zup1, zite2, zite1, upd_r, zt_le (zn_mono (i_Lea_11 h) (by decide)), q_1_6 h, q_0_11 h, q_34 h, q_6_0 h, q_41 h, q_42 h, q_43 h, q_44 h, q_45 h, q_46 h, q_47 h, q_48 h, q_49 h, q_50 h, ite_self, not_false_eq_true, not_true_eq_false, Nat.reduceEqDiff, reduceIte, true_and, and_true, false_and, and_false, ite_true, ite_false]; first | exact h13 | grind [zb] | (funext b; grind [zb]))
  · first
    | exact h14
    | (simp only [F274, F353_0_148, G274, G353_0_148, M33, zup2, zup1, zite2, zite1, upd_r, zt_le (zn_mono (i_Lea_11 h) (by decide)), q_1_6 h, q_0_11 h, q_34 h, q_6_0 h, q_41 h, q_42 h, q_43 h, q_44 h, q_45 h, q_46 h, q_47 h, q_48 h, q_49 h, q_50 h, ite_self, not_false_eq_true, not_true_eq_false, Nat.reduceEqDiff, reduceIte, true_and, and_true, false_and, and_false, ite_true, ite_false]; done)
    | (simp only [F274, F353_0_148, G274, G353_0_148, M33, zup2, zup1, zite2, zite1, upd_r, zt_le (zn_mono (i_Lea_11 h) (by decide)), q_1_6 h, q_0_11 h, q_34 h, q_6_0 h, q_41 h, q_42 h, q_43 h, q_44 h, q_45 h, q_46 h, q_47 h, q_48 h, q_49 h, q_50 h, ite_self, not_false_eq_true, not_true_eq_false, Nat.reduceEqDiff, reduceIte, true_and, and_true, false_and, and_false, ite_true, ite_false]; first | exact h14 | grind [zb] | (funext b; grind [zb]))
  · first
    | exact h15
    | (simp only [F274, F353_0_148, G274, G353_0_148, M33, zup2, zup1, zite2, zite1, upd_r, zt_le (zn_mono (i_Lea_11 h) (by decide)), q_1_6 h, q_0_11 h, q_34 h, q_6_0 h, q_41 h, q_42 h, q_43 h, q_44 h, q_45 h, q_46 h, q_47 h, q_48 h, q_49 h, q_50 h, ite_self, not_false_eq_true, not_true_eq_false, Nat.reduceEqDiff, reduceIte, true_and, and_true, false_and, and_false, ite_true, ite_false]; done)
    | (simp only [F274, F353_0_148, G274, G353_0_148, M33, zup2, zup1, zite2, zite1, upd_r, zt_le (zn_mono (i_Lea_11 h) (by decide)), q_1_6 h, q_0_11 h, q_34 h, q_6_0 h, q_41 h, q_42 h, q_43 h, q_44 h, q_45 h, q_46 h, q_47 h, q_48 h, q_49 h, q_50 h, ite_self, not_false_eq_true, not_true_eq_false, Nat.reduceEqDiff, reduceIte, true_and, and_true, false_and, and_false, ite_true, ite_false]; first | exact h15 | (intro j; have hj := h15 j; grind [zb, zo, zn, zlt_m1, zlt_0, zlt_1]) | grind [zb] | (funext b; grind [zb]))
  · first
    | exact h16
    | (simp only [F274, F353_0_148, G274, G353_0_148, M33, zup2, zup1, zite2, zite1, upd_r, zt_le (zn_mono (i_Lea_11 h) (by decide)), q_1_6 h, q_0_11 h, q_34 h, q_6_0 h, q_41 h, q_42 h, q_43 h, q_44 h, q_45 h, q_46 h, q_47 h, q_48 h, q_49 h, q_50 h, ite_self, not_false_eq_true, not_true_eq_false, Nat.reduceEqDiff, reduceIte, true_and, and_true, false_and, and_false, ite_true, ite_false]; done)
    | (simp only [F274, F353_0_148, G274, G353_0_148, M33, zup2, zup1, zite2, zite1, upd_r, zt_le (zn_mono (i_Lea_11 h) (by decide)), q_1_6 h, q_0_11 h, q_34 h, q_6_0 h, q_41 h, q_42 h, q_43 h, q_44 h, q_45 h, q_46 h, q_47 h, q_48 h, q_49 h, q_50 h, ite_self, not_false_eq_true, not_true_eq_false, Nat.reduceEqDiff, reduceIte, true_and, and_true, false_and, and_false, ite_true, ite_false]; first | exact h16 | (intro j; have hj := h16 j; grind [zb, zo, zn, zlt_m1, zlt_0, zlt_1]) | grind [zb] | (funext b; grind [zb]))
  · first
    | exact h17
    | (simp only [F274, F353_0_148, G274, G353_0_148, M33, zup2, zup1, zite2, zite1, upd_r, zt_le (zn_mono (i_Lea_11 h) (by decide)), q_1_6 h, q_0_11 h, q_34 h, q_6_0 h, q_41 h, q_42 h, q_43 h, q_44 h, q_45 h, q_46 h, q_47 h, q_48 h, q_49 h, q_50 h, ite_self, not_false_eq_true, not_true_eq_false, Nat.reduceEqDiff, reduceIte, true_and, and_true, false_and, and_false, ite_true, ite_false]; done)
    | (simp only [F274, F353_0_148, G274, G353_0_148, M33, zup2, zup1, zite2, zite1, upd_r, zt_le (zn_mono (i_Lea_11 h) (by decide)), q_1_6 h, q_0_11 h, q_34 h, q_6_0 h, q_41 h, q_42 h, q_43 h, q_44 h, q_45 h, q_46 h, q_47 h, q_48 h, q_49 h, q_50 h, ite_self, not_false_eq_true, not_true_eq_false, Nat.reduceEqDiff, reduceIte, true_and, and_true, false_and, and_false, ite_true, ite_false]; first | exact h17 | (intro j; have hj := h17 j; grind [zb, zo, zn, zlt_m1, zlt_0, zlt_1]) | grind [zb] | (funext b; grind [zb]))
  · first
    | exact h18
    | (simp only [F274, F353_0_148, G274, G353_0_148, M33, zup2, zup1, zite2, zite1, upd_r, zt_le (zn_mono (i_Lea_11 h) (by decide)), q_1_6 h, q_0_11 h, q_34 h, q_6_0 h, q_41 h, q_42 h, q_43 h, q_44 h, q_45 h, q_46 h, q_47 h, q_48 h, q_49 h, q_50 h, ite_self, not_false_eq_true, not_true_eq_false, Nat.reduceEqDiff, reduceIte, true_and, and_true, false_and, and_false, ite_true, ite_false]; done)
    | (simp only [F274, F353_0_148, G274, G353_0_148, M33, zup2, zup1, zite2, zite1, upd_r, zt_le (zn_mono (i_Lea_11 h) (by decide)), q_1_6 h, q_0_11 h, q_34 h, q_6_0 h, q_41 h, q_42 h, q_43 h, q_44 h, q_45 h, q_46 h, q_47 h, q_48 h, q_49 h, q_50 h, ite_self, not_false_eq_true, not_true_eq_false, Nat.reduceEqDiff, reduceIte, true_and, and_true, false_and, and_false, ite_true, ite_false]; first | exact h18 | (intro j; have hj := h18 j; grind [zb, zo, zn, zlt_m1, zlt_0, zlt_1]) | grind [zb] | (funext b; grind [zb]))

/-! call 35: the class and the reference answer alike (wip/whole/man/35.txt) -/
set_option maxHeartbeats 200000 in
theorem zyr35 {n : Nat} {S T : zS} (q1 : Int32) (h : zR n S T) : (zb (¬ ((¬ (q1 < 0)) ∧ (¬ (((T 13 57) - 1) < q1))))) = (F355_0_148 q1 S) ∧ ((F355_0_148 q1 S) = 0 → ((G355_0_148 q1 S) 148 0) = (if ((zb (¬ ((¬ (q1 < 0)) ∧ (¬ (((T 13 57) - 1) < q1))))) = 0) then ((T 125 q1.toNatClampNeg) : Int32) else 0)) := by
  first
  | (simp only [F355_0_148, G355_0_148, zup2, zup1, zite2, zite1, upd_r, zt_le (zn_mono (i_Lea_11 h) (by decide)), q_6_0 h, q_46 h, ite_self, not_false_eq_true, not_true_eq_false, Nat.reduceEqDiff, reduceIte, true_and, and_true, false_and, and_false, ite_true, ite_false]; done)
  | (simp only [F355_0_148, G355_0_148, zup2, zup1, zite2, zite1, upd_r, zt_le (zn_mono (i_Lea_11 h) (by decide)), q_6_0 h, q_46 h, ite_self, not_false_eq_true, not_true_eq_false, Nat.reduceEqDiff, reduceIte, true_and, and_true, false_and, and_false, ite_true, ite_false]; grind [zb])

/-! call 36: the class and the reference answer alike (wip/whole/man/36.txt) -/
set_option maxHeartbeats 200000 in
theorem zyr36 {n : Nat} {S T : zS} (q1 : Int32) (h : zR n S T) : (zb (¬ ((¬ (q1 < 0)) ∧ (¬ (((T 13 57) - 1) < q1))))) = (F356_0_148 q1 S) ∧ ((F356_0_148 q1 S) = 0 → ((G356_0_148 q1 S) 148 0) = (if ((zb (¬ ((¬ (q1 < 0)) ∧ (¬ (((T 13 57) - 1) < q1))))) = 0) then ((T 123 q1.toNatClampNeg) : Int32) else 0)) := by
  first
  | (simp only [F356_0_148, G356_0_148, zup2, zup1, zite2, zite1, upd_r, zt_le (zn_mono (i_Lea_11 h) (by decide)), q_6_0 h, q_44 h, ite_self, not_false_eq_true, not_true_eq_false, Nat.reduceEqDiff, reduceIte, true_and, and_true, false_and, and_false, ite_true, ite_false]; done)
  | (simp only [F356_0_148, G356_0_148, zup2, zup1, zite2, zite1, upd_r, zt_le (zn_mono (i_Lea_11 h) (by decide)), q_6_0 h, q_44 h, ite_self, not_false_eq_true, not_true_eq_false, Nat.reduceEqDiff, reduceIte, true_and, and_true, false_and, and_false, ite_true, ite_false]; grind [zb])

/-! call 37: the class and the reference answer alike (wip/whole/man/37.txt) -/
set_option maxHeartbeats 200000 in
theorem zyr37 {n : Nat} {S T : zS} (q1 : Int32) (h : zR n S T) : (zb (¬ ((¬ (q1 < 0)) ∧ (¬ (2 < q1))))) = (F357_0_148 q1 S) ∧ ((F357_0_148 q1 S) = 0 → ((G357_0_148 q1 S) 148 0) = (if ((zb (¬ ((¬ (q1 < 0)) ∧ (¬ (2 < q1))))) = 0) then ((T 128 q1.toNatClampNeg) : Int32) else 0)) := by
  first
  | (simp only [F357_0_148, G357_0_148, zup2, zup1, zite2, zite1, upd_r, q_49 h, ite_self, not_false_eq_true, not_true_eq_false, Nat.reduceEqDiff, reduceIte, true_and, and_true, false_and, and_false, ite_true, ite_false]; done)
  | (simp only [F357_0_148, G357_0_148, zup2, zup1, zite2, zite1, upd_r, q_49 h, ite_self, not_false_eq_true, not_true_eq_false, Nat.reduceEqDiff, reduceIte, true_and, and_true, false_and, and_false, ite_true, ite_false]; grind [zb])

/-! call 40: the class and the reference answer alike (wip/whole/man/40.txt) -/
set_option maxHeartbeats 200000 in
theorem zyr40 {n : Nat} {S T : zS} (q1 : Int32) (h : zR n S T) : ((G299 q1 T) 13 0) = (F360_0_148 q1 S) ∧ ((F360_0_148 q1 S) = 0 → ((G360_0_148 q1 S) 148 0) = (F299 q1 T)) := by
  first
  | (simp only [F299, F360_0_148, G299, G360_0_148, zup2, zup1, zite2, zite1, upd_r, zt_le (zn_mono (i_Wra_4 h) (by decide)), q_1_6 h, q_0_11 h, q_10_0 h, q_63 h, q_64 h, q_65 h, ite_self, not_false_eq_true, not_true_eq_false, Nat.reduceEqDiff, reduceIte, true_and, and_true, false_and, and_false, ite_true, ite_false]; done)
  | (simp only [F299, F360_0_148, G299, G360_0_148, zup2, zup1, zite2, zite1, upd_r, zt_le (zn_mono (i_Wra_4 h) (by decide)), q_1_6 h, q_0_11 h, q_10_0 h, q_63 h, q_64 h, q_65 h, ite_self, not_false_eq_true, not_true_eq_false, Nat.reduceEqDiff, reduceIte, true_and, and_true, false_and, and_false, ite_true, ite_false]; grind [zb])
set_option maxHeartbeats 200000 in
theorem zyt40_Wra {n : Nat} {S T : zS} (q1 : Int32) (hn : n < 512) (h : zR n S T) : zWra (G360_0_148 q1 S) (M40 q1 T) := by
  have hr := zR_Wra h
  unfold zWra at hr ⊢
  obtain ⟨h0, h1, h2, h3, h4, h5⟩ := hr
  refine ⟨?_, ?_, ?_, ?_, ?_, ?_⟩
  · first
    | exact h0
    | (simp only [F299, F360_0_148, G299, G360_0_148, M40, zup2, zup1, zite2, zite1, upd_r, zt_le (zn_mono (i_Wra_4 h) (by decide)), q_1_6 h, q_0_11 h, q_10_0 h, q_63 h, q_64 h, q_65 h, ite_self, not_false_eq_true, not_true_eq_false, Nat.reduceEqDiff, reduceIte, true_and, and_true, false_and, and_false, ite_true, ite_false]; done)
    | (simp only [F299, F360_0_148, G299, G360_0_148, M40, zup2, zup1, zite2, zite1, upd_r, zt_le (zn_mono (i_Wra_4 h) (by decide)), q_1_6 h, q_0_11 h, q_10_0 h, q_63 h, q_64 h, q_65 h, ite_self, not_false_eq_true, not_true_eq_false, Nat.reduceEqDiff, reduceIte, true_and, and_true, false_and, and_false, ite_true, ite_false]; first | exact h0 | grind [zb] | (funext b; grind [zb]))
  · first
    | exact h1
    | (simp only [F299, F360_0_148, G299, G360_0_148, M40, zup2, zup1, zite2, zite1, upd_r, zt_le (zn_mono (i_Wra_4 h) (by decide)), q_1_6 h, q_0_11 h, q_10_0 h, q_63 h, q_64 h, q_65 h, ite_self, not_false_eq_true, not_true_eq_false, Nat.reduceEqDiff, reduceIte, true_and, and_true, false_and, and_false, ite_true, ite_false]; done)
    | (simp only [F299, F360_0_148, G299, G360_0_148, M40, zup2, zup1, zite2, zite1, upd_r, zt_le (zn_mono (i_Wra_4 h) (by decide)), q_1_6 h, q_0_11 h, q_10_0 h, q_63 h, q_64 h, q_65 h, ite_self, not_false_eq_true, not_true_eq_false, Nat.reduceEqDiff, reduceIte, true_and, and_true, false_and, and_false, ite_true, ite_false]; first | exact h1 | grind [zb] | (funext b; grind [zb]))
  · first
    | exact h2
    | (simp only [F299, F360_0_148, G299, G360_0_148, M40, zup2, zup1, zite2, zite1, upd_r, zt_le (zn_mono (i_Wra_4 h) (by decide)), q_1_6 h, q_0_11 h, q_10_0 h, q_63 h, q_64 h, q_65 h, ite_self, not_false_eq_true, not_true_eq_false, Nat.reduceEqDiff, reduceIte, true_and, and_true, false_and, and_false, ite_true, ite_false]; done)
    | (simp only [F299, F360_0_148, G299, G360_0_148, M40, zup2, zup1, zite2, zite1, upd_r, zt_le (zn_mono (i_Wra_4 h) (by decide)), q_1_6 h, q_0_11 h, q_10_0 h, q_63 h, q_64 h, q_65 h, ite_self, not_false_eq_true, not_true_eq_false, Nat.reduceEqDiff, reduceIte, true_and, and_true, false_and, and_false, ite_true, ite_false]; first | exact h2 | grind [zb] | (funext b; grind [zb]))
  · first
    | exact h3
    | (simp only [F299, F360_0_148, G299, G360_0_148, M40, zup2, zup1, zite2, zite1, upd_r, zt_le (zn_mono (i_Wra_4 h) (by decide)), q_1_6 h, q_0_11 h, q_10_0 h, q_63 h, q_64 h, q_65 h, ite_self, not_false_eq_true, not_true_eq_false, Nat.reduceEqDiff, reduceIte, true_and, and_true, false_and, and_false, ite_true, ite_false]; done)
    | (simp only [F299, F360_0_148, G299, G360_0_148, M40, zup2, zup1, zite2, zite1, upd_r, zt_le (zn_mono (i_Wra_4 h) (by decide)), q_1_6 h, q_0_11 h, q_10_0 h, q_63 h, q_64 h, q_65 h, ite_self, not_false_eq_true, not_true_eq_false, Nat.reduceEqDiff, reduceIte, true_and, and_true, false_and, and_false, ite_true, ite_false]; first | exact h3 | grind [zb] | (funext b; grind [zb]))
  · first
    | exact h4
    | (simp only [F299, F360_0_148, G299, G360_0_148, M40, zup2, zup1, zite2, zite1, upd_r, zt_le (zn_mono (i_Wra_4 h) (by decide)), q_1_6 h, q_0_11 h, q_10_0 h, q_63 h, q_64 h, q_65 h, ite_self, not_false_eq_true, not_true_eq_false, Nat.reduceEqDiff, reduceIte, true_and, and_true, false_and, and_false, ite_true, ite_false]; done)
    | (simp only [F299, F360_0_148, G299, G360_0_148, M40, zup2, zup1, zite2, zite1, upd_r, zt_le (zn_mono (i_Wra_4 h) (by decide)), q_1_6 h, q_0_11 h, q_10_0 h, q_63 h, q_64 h, q_65 h, ite_self, not_false_eq_true, not_true_eq_false, Nat.reduceEqDiff, reduceIte, true_and, and_true, false_and, and_false, ite_true, ite_false]; first | exact h4 | grind [zb] | (funext b; grind [zb]))
  · first
    | exact h5
    | (simp only [F299, F360_0_148, G299, G360_0_148, M40, zup2, zup1, zite2, zite1, upd_r, zt_le (zn_mono (i_Wra_4 h) (by decide)), q_1_6 h, q_0_11 h, q_10_0 h, q_63 h, q_64 h, q_65 h, ite_self, not_false_eq_true, not_true_eq_false, Nat.reduceEqDiff, reduceIte, true_and, and_true, false_and, and_false, ite_true, ite_false]; done)
    | (simp only [F299, F360_0_148, G299, G360_0_148, M40, zup2, zup1, zite2, zite1, upd_r, zt_le (zn_mono (i_Wra_4 h) (by decide)), q_1_6 h, q_0_11 h, q_10_0 h, q_63 h, q_64 h, q_65 h, ite_self, not_false_eq_true, not_true_eq_false, Nat.reduceEqDiff, reduceIte, true_and, and_true, false_and, and_false, ite_true, ite_false]; first | exact h5 | (intro j; have hj := h5 j; grind [zb, zo, zn, zlt_m1, zlt_0, zlt_1]) | grind [zb] | (funext b; grind [zb]))

/-! call 43: the class and the reference answer alike (wip/whole/man/43.txt) -/
set_option maxHeartbeats 200000 in
theorem zyr43 {n : Nat} {S T : zS} (h : zR n S T) : (S 10 4) = (T 13 72) := by
  first
  | (simp only [zup2, zup1, zite2, zite1, upd_r, q_10_4 h, ite_self, not_false_eq_true, not_true_eq_false, Nat.reduceEqDiff, reduceIte, true_and, and_true, false_and, and_false, ite_true, ite_false]; done)
  | (simp only [zup2, zup1, zite2, zite1, upd_r, q_10_4 h, ite_self, not_false_eq_true, not_true_eq_false, Nat.reduceEqDiff, reduceIte, true_and, and_true, false_and, and_false, ite_true, ite_false]; grind [zb])

/-! call 45: the class and the reference answer alike (wip/whole/man/45.txt) -/
set_option maxHeartbeats 200000 in
theorem zyr45 {n : Nat} {S T : zS} (q1 : Int32) (h : zR n S T) : ((G311 q1 T) 13 0) = (F364_0_148 q1 S) ∧ ((F364_0_148 q1 S) = 0 → ((G364_0_148 q1 S) 148 0) = (zb (((zb (¬ ((¬ (q1 < 0)) ∧ (¬ (((T 13 79) - 1) < q1))))) = 0) ∧ ((T 142 q1.toNatClampNeg) = 0)))) := by
  first
  | (simp only [F364_0_148, G311, G364_0_148, zup2, zup1, zite2, zite1, upd_r, zt_le (zn_mono (i_Cer_6 h) (by decide)), q_11_0 h, q_75 h, ite_self, not_false_eq_true, not_true_eq_false, Nat.reduceEqDiff, reduceIte, true_and, and_true, false_and, and_false, ite_true, ite_false]; done)
  | (simp only [F364_0_148, G311, G364_0_148, zup2, zup1, zite2, zite1, upd_r, zt_le (zn_mono (i_Cer_6 h) (by decide)), q_11_0 h, q_75 h, ite_self, not_false_eq_true, not_true_eq_false, Nat.reduceEqDiff, reduceIte, true_and, and_true, false_and, and_false, ite_true, ite_false]; grind [zb])
set_option maxHeartbeats 200000 in
theorem zyt45_Cer {n : Nat} {S T : zS} (q1 : Int32) (hn : n < 512) (h : zR n S T) : zCer (G364_0_148 q1 S) (M45 q1 T) := by
  have hr := zR_Cer h
  unfold zCer at hr ⊢
  obtain ⟨h0, h1, h2, h3, h4, h5, h6, h7, h8, h9, h10⟩ := hr
  refine ⟨?_, ?_, ?_, ?_, ?_, ?_, ?_, ?_, ?_, ?_, ?_⟩
  · first
    | exact h0
    | (simp only [F364_0_148, G311, G364_0_148, M45, zup2, zup1, zite2, zite1, upd_r, zt_le (zn_mono (i_Cer_6 h) (by decide)), q_11_0 h, q_72 h, q_73 h, q_74 h, q_75 h, q_76 h, ite_self, not_false_eq_true, not_true_eq_false, Nat.reduceEqDiff, reduceIte, true_and, and_true, false_and, and_false, ite_true, ite_false]; done)
    | (simp only [F364_0_148, G311, G364_0_148, M45, zup2, zup1, zite2, zite1, upd_r, zt_le (zn_mono (i_Cer_6 h) (by decide)), q_11_0 h, q_72 h, q_73 h, q_74 h, q_75 h, q_76 h, ite_self, not_false_eq_true, not_true_eq_false, Nat.reduceEqDiff, reduceIte, true_and, and_true, false_and, and_false, ite_true, ite_false]; first | exact h0 | grind [zb] | (funext b; grind [zb]))
  · first
    | exact h1
    | (simp only [F364_0_148, G311, G364_0_148, M45, zup2, zup1, zite2, zite1, upd_r, zt_le (zn_mono (i_Cer_6 h) (by decide)), q_11_0 h, q_72 h, q_73 h, q_74 h, q_75 h, q_76 h, ite_self, not_false_eq_true, not_true_eq_false, Nat.reduceEqDiff, reduceIte, true_and, and_true, false_and, and_false, ite_true, ite_false]; done)
    | (simp only [F364_0_148, G311, G364_0_148, M45, zup2, zup1, zite2, zite1, upd_r, zt_le (zn_mono (i_Cer_6 h) (by decide)), q_11_0 h, q_72 h, q_73 h, q_74 h, q_75 h, q_76 h, ite_self, not_false_eq_true, not_true_eq_false, Nat.reduceEqDiff, reduceIte, true_and, and_true, false_and, and_false, ite_true, ite_false]; first | exact h1 | grind [zb] | (funext b; grind [zb]))
  · first
    | exact h2
    | (simp only [F364_0_148, G311, G364_0_148, M45, zup2, zup1, zite2, zite1, upd_r, zt_le (zn_mono (i_Cer_6 h) (by decide)), q_11_0 h, q_72 h, q_73 h, q_74 h, q_75 h, q_76 h, ite_self, not_false_eq_true, not_true_eq_false, Nat.reduceEqDiff, reduceIte, true_and, and_true, false_and, and_false, ite_true, ite_false]; done)
    | (simp only [F364_0_148, G311, G364_0_148, M45, zup2, zup1, zite2, zite1, upd_r, zt_le (zn_mono (i_Cer_6 h) (by decide)), q_11_0 h, q_72 h, q_73 h, q_74 h, q_75 h, q_76 h, ite_self, not_false_eq_true, not_true_eq_false, Nat.reduceEqDiff, reduceIte, true_and, and_true, false_and, and_false, ite_true, ite_false]; first | exact h2 | grind [zb] | (funext b; grind [zb]))
  · first
    | exact h3
    | (simp only [F364_0_148, G311, G364_0_148, M45, zup2, zup1, zite2, zite1, upd_r, zt_le (zn_mono (i_Cer_6 h) (by decide)), q_11_0 h, q_72 h, q_73 h, q_74 h, q_75 h, q_76 h, ite_self, not_false_eq_true, not_true_eq_false, Nat.reduceEqDiff, reduceIte, true_and, and_true, false_and, and_false, ite_true, ite_false]; done)
    | (simp only [F364_0_148, G311, G364_0_148, M45, zup2, zup1, zite2, zite1, upd_r, zt_le (zn_mono (i_Cer_6 h) (by decide)), q_11_0 h, q_72 h, q_73 h, q_74 h, q_75 h, q_76 h, ite_self, not_false_eq_true, not_true_eq_false, Nat.reduceEqDiff, reduceIte, true_and, and_true, false_and, and_false, ite_true, ite_false]; first | exact h3 | grind [zb] | (funext b; grind [zb]))
  · first
    | exact h4
    | (simp only [F364_0_148, G311, G364_0_148, M45, zup2, zup1, zite2, zite1, upd_r, zt_le (zn_mono (i_Cer_6 h) (by decide)), q_11_0 h, q_72 h, q_73 h, q_74 h, q_75 h, q_76 h, ite_self, not_false_eq_true, not_true_eq_false, Nat.reduceEqDiff, reduceIte, true_and, and_true, false_and, and_false, ite_true, ite_false]; done)
    | (simp only [F364_0_148, G311, G364_0_148, M45, zup2, zup1, zite2, zite1, upd_r, zt_le (zn_mono (i_Cer_6 h) (by decide)), q_11_0 h, q_72 h, q_73 h, q_74 h, q_75 h, q_76 h, ite_self, not_false_eq_true, not_true_eq_false, Nat.reduceEqDiff, reduceIte, true_and, and_true, false_and, and_false, ite_true, ite_false]; first | exact h4 | grind [zb] | (funext b; grind [zb]))
  · first
    | exact h5
    | (simp only [F364_0_148, G311, G364_0_148, M45, zup2, zup1, zite2, zite1, upd_r, zt_le (zn_mono (i_Cer_6 h) (by decide)), q_11_0 h, q_72 h, q_73 h, q_74 h, q_75 h, q_76 h, ite_self, not_false_eq_true, not_true_eq_false, Nat.reduceEqDiff, reduceIte, true_and, and_true, false_and, and_false, ite_true, ite_false]; done)
    | (simp only [F364_0_148, G311, G364_0_148, M45, zup2, zup1, zite2, zite1, upd_r, zt_le (zn_mono (i_Cer_6 h) (by decide)), q_11_0 h, q_72 h, q_73 h, q_74 h, q_75 h, q_76 h, ite_self, not_false_eq_true, not_true_eq_false, Nat.reduceEqDiff, reduceIte, true_and, and_true, false_and, and_false, ite_true, ite_false]; first | exact h5 | grind [zb] | (funext b; grind [zb]))
  · first
    | exact h6
    | (simp only [F364_0_148, G311, G364_0_148, M45, zup2, zup1, zite2, zite1, upd_r, zt_le (zn_mono (i_Cer_6 h) (by decide)), q_11_0 h, q_72 h, q_73 h, q_74 h, q_75 h, q_76 h, ite_self, not_false_eq_true, not_true_eq_false, Nat.reduceEqDiff, reduceIte, true_and, and_true, false_and, and_false, ite_true, ite_false]; done)
    | (simp only [F364_0_148, G311, G364_0_148, M45, zup2, zup1, zite2, zite1, upd_r, zt_le (zn_mono (i_Cer_6 h) (by decide)), q_11_0 h, q_72 h, q_73 h, q_74 h, q_75 h, q_76 h, ite_self, not_false_eq_true, not_true_eq_false, Nat.reduceEqDiff, reduceIte, true_and, and_true, false_and, and_false, ite_true, ite_false]; first | exact h6 | grind [zb] | (funext b; grind [zb]))
  · first
    | exact h7
    | (simp only [F364_0_148, G311, G364_0_148, M45, zup2, zup1, zite2, zite1, upd_r, zt_le (zn_mono (i_Cer_6 h) (by decide)), q_11_0 h, q_72 h, q_73 h, q_74 h, q_75 h, q_76 h, ite_self, not_false_eq_true, not_true_eq_false, Nat.reduceEqDiff, reduceIte, true_and, and_true, false_and, and_false, ite_true, ite_false]; done)
    | (simp only [F364_0_148, G311, G364_0_148, M45, zup2, zup1, zite2, zite1, upd_r, zt_le (zn_mono (i_Cer_6 h) (by decide)), q_11_0 h, q_72 h, q_73 h, q_74 h, q_75 h, q_76 h, ite_self, not_false_eq_true, not_true_eq_false, Nat.reduceEqDiff, reduceIte, true_and, and_true, false_and, and_false, ite_true, ite_false]; first | exact h7 | (intro j; have hj := h7 j; grind [zb, zo, zn, zlt_m1, zlt_0, zlt_1]) | grind [zb] | (funext b; grind [zb]))
  · first
    | exact h8
    | (simp only [F364_0_148, G311, G364_0_148, M45, zup2, zup1, zite2, zite1, upd_r, zt_le (zn_mono (i_Cer_6 h) (by decide)), q_11_0 h, q_72 h, q_73 h, q_74 h, q_75 h, q_76 h, ite_self, not_false_eq_true, not_true_eq_false, Nat.reduceEqDiff, reduceIte, true_and, and_true, false_and, and_false, ite_true, ite_false]; done)
    | (simp only [F364_0_148, G311, G364_0_148, M45, zup2, zup1, zite2, zite1, upd_r, zt_le (zn_mono (i_Cer_6 h) (by decide)), q_11_0 h, q_72 h, q_73 h, q_74 h, q_75 h, q_76 h, ite_self, not_false_eq_true, not_true_eq_false, Nat.reduceEqDiff, reduceIte, true_and, and_true, false_and, and_false, ite_true, ite_false]; first | exact h8 | (intro j; have hj := h8 j; grind [zb, zo, zn, zlt_m1, zlt_0, zlt_1]) | grind [zb] | (funext b; grind [zb]))
  · first
    | exact h9
    | (simp only [F364_0_148, G311, G364_0_148, M45, zup2, zup1, zite2, zite1, upd_r, zt_le (zn_mono (i_Cer_6 h) (by decide)), q_11_0 h, q_72 h, q_73 h, q_74 h, q_75 h, q_76 h, ite_self, not_false_eq_true, not_true_eq_false, Nat.reduceEqDiff, reduceIte, true_and, and_true, false_and, and_false, ite_true, ite_false]; done)
    | (simp only [F364_0_148, G311, G364_0_148, M45, zup2, zup1, zite2, zite1, upd_r, zt_le (zn_mono (i_Cer_6 h) (by decide)), q_11_0 h, q_72 h, q_73 h, q_74 h, q_75 h, q_76 h, ite_self, not_false_eq_true, not_true_eq_false, Nat.reduceEqDiff, reduceIte, true_and, and_true, false_and, and_false, ite_true, ite_false]; first | exact h9 | (intro j; have hj := h9 j; grind [zb, zo, zn, zlt_m1, zlt_0, zlt_1]) | grind [zb] | (funext b; grind [zb]))
  · first
    | exact h10
    | (simp only [F364_0_148, G311, G364_0_148, M45, zup2, zup1, zite2, zite1, upd_r, zt_le (zn_mono (i_Cer_6 h) (by decide)), q_11_0 h, q_72 h, q_73 h, q_74 h, q_75 h, q_76 h, ite_self, not_false_eq_true, not_true_eq_false, Nat.reduceEqDiff, reduceIte, true_and, and_true, false_and, and_false, ite_true, ite_false]; done)
    | (simp only [F364_0_148, G311, G364_0_148, M45, zup2, zup1, zite2, zite1, upd_r, zt_le (zn_mono (i_Cer_6 h) (by decide)), q_11_0 h, q_72 h, q_73 h, q_74 h, q_75 h, q_76 h, ite_self, not_false_eq_true, not_true_eq_false, Nat.reduceEqDiff, reduceIte, true_and, and_true, false_and, and_false, ite_true, ite_false]; first | exact h10 | (intro j; have hj := h10 j; grind [zb, zo, zn, zlt_m1, zlt_0, zlt_1]) | grind [zb] | (funext b; grind [zb]))

/-! call 48: the class and the reference answer alike (wip/whole/man/48.txt) -/
set_option maxHeartbeats 200000 in
theorem zyr48 {n : Nat} {S T : zS} (q1 : Int32) (h : zR n S T) : (zb (¬ ((¬ (q1 < 0)) ∧ (¬ (((T 13 79) - 1) < q1))))) = (F366_0_148 q1 S) ∧ ((F366_0_148 q1 S) = 0 → ((G366_0_148 q1 S) 148 0) = (if ((zb (¬ ((¬ (q1 < 0)) ∧ (¬ (((T 13 79) - 1) < q1))))) = 0) then ((T 139 q1.toNatClampNeg) : Int32) else 0)) := by
  first
  | (simp only [F366_0_148, G366_0_148, zup2, zup1, zite2, zite1, upd_r, zt_le (zn_mono (i_Cer_6 h) (by decide)), q_11_0 h, q_74 h, ite_self, not_false_eq_true, not_true_eq_false, Nat.reduceEqDiff, reduceIte, true_and, and_true, false_and, and_false, ite_true, ite_false]; done)
  | (simp only [F366_0_148, G366_0_148, zup2, zup1, zite2, zite1, upd_r, zt_le (zn_mono (i_Cer_6 h) (by decide)), q_11_0 h, q_74 h, ite_self, not_false_eq_true, not_true_eq_false, Nat.reduceEqDiff, reduceIte, true_and, and_true, false_and, and_false, ite_true, ite_false]; grind [zb])

/-! call 49: the class and the reference answer alike (wip/whole/man/49.txt) -/
set_option maxHeartbeats 200000 in
theorem zyr49 {n : Nat} {S T : zS} (q1 : Int32) (q2 : Int32) (q3 : Int32) (q4 : Int32) (h : zR n S T) : ((G316 q1 (zb (¬ (q2 = 0))) (zb (¬ (q3 = 0))) q4 T) 13 0) = (F367_0_148 q1 (zb (¬ (q2 = 0))) (zb (¬ (q3 = 0))) q4 S) ∧ ((F367_0_148 q1 (zb (¬ (q2 = 0))) (zb (¬ (q3 = 0))) q4 S) = 0 → ((G367_0_148 q1 (zb (¬ (q2 = 0))) (zb (¬ (q3 = 0))) q4 S) 148 0) = (zb (¬ ((F316 q1 (zb (¬ (q2 = 0))) (zb (¬ (q3 = 0))) q4 T) = 0)))) := by
  first
  | (simp only [F316, F367_0_148, G316, G367_0_148, zup2, zup1, zite2, zite1, upd_r, q_77 h, ite_self, not_false_eq_true, not_true_eq_false, Nat.reduceEqDiff, reduceIte, true_and, and_true, false_and, and_false, ite_true, ite_false]; done)
  | (simp only [F316, F367_0_148, G316, G367_0_148, zup2, zup1, zite2, zite1, upd_r, q_77 h, ite_self, not_false_eq_true, not_true_eq_false, Nat.reduceEqDiff, reduceIte, true_and, and_true, false_and, and_false, ite_true, ite_false]; grind [zb])
set_option maxHeartbeats 200000 in
theorem zyt49_Sin {n : Nat} {S T : zS} (q1 : Int32) (q2 : Int32) (q3 : Int32) (q4 : Int32) (hn : n < 512) (h : zR n S T) : zSin (G367_0_148 q1 (zb (¬ (q2 = 0))) (zb (¬ (q3 = 0))) q4 S) (M49 q1 q2 q3 q4 T) := by
  have hr := zR_Sin h
  unfold zSin at hr ⊢
  obtain ⟨h0, h1, h2, h3, h4, h5⟩ := hr
  refine ⟨?_, ?_, ?_, ?_, ?_, ?_⟩
  · first
    | exact h0
    | (simp only [F316, F367_0_148, G316, G367_0_148, M49, zup2, zup1, zite2, zite1, upd_r, q_77 h, q_78 h, q_79 h, q_80 h, ite_self, not_false_eq_true, not_true_eq_false, Nat.reduceEqDiff, reduceIte, true_and, and_true, false_and, and_false, ite_true, ite_false]; done)
    | (simp only [F316, F367_0_148, G316, G367_0_148, M49, zup2, zup1, zite2, zite1, upd_r, q_77 h, q_78 h, q_79 h, q_80 h, ite_self, not_false_eq_true, not_true_eq_false, Nat.reduceEqDiff, reduceIte, true_and, and_true, false_and, and_false, ite_true, ite_false]; first | exact h0 | grind [zb] | (funext b; grind [zb]))
  · first
    | exact h1
    | (simp only [F316, F367_0_148, G316, G367_0_148, M49, zup2, zup1, zite2, zite1, upd_r, q_77 h, q_78 h, q_79 h, q_80 h, ite_self, not_false_eq_true, not_true_eq_false, Nat.reduceEqDiff, reduceIte, true_and, and_true, false_and, and_false, ite_true, ite_false]; done)
    | (simp only [F316, F367_0_148, G316, G367_0_148, M49, zup2, zup1, zite2, zite1, upd_r, q_77 h, q_78 h, q_79 h, q_80 h, ite_self, not_false_eq_true, not_true_eq_false, Nat.reduceEqDiff, reduceIte, true_and, and_true, false_and, and_false, ite_true, ite_false]; first | exact h1 | grind [zb] | (funext b; grind [zb]))
  · first
    | exact h2
    | (simp only [F316, F367_0_148, G316, G367_0_148, M49, zup2, zup1, zite2, zite1, upd_r, q_77 h, q_78 h, q_79 h, q_80 h, ite_self, not_false_eq_true, not_true_eq_false, Nat.reduceEqDiff, reduceIte, true_and, and_true, false_and, and_false, ite_true, ite_false]; done)
    | (simp only [F316, F367_0_148, G316, G367_0_148, M49, zup2, zup1, zite2, zite1, upd_r, q_77 h, q_78 h, q_79 h, q_80 h, ite_self, not_false_eq_true, not_true_eq_false, Nat.reduceEqDiff, reduceIte, true_and, and_true, false_and, and_false, ite_true, ite_false]; first | exact h2 | grind [zb] | (funext b; grind [zb]))
  · first
    | exact h3
    | (simp only [F316, F367_0_148, G316, G367_0_148, M49, zup2, zup1, zite2, zite1, upd_r, q_77 h, q_78 h, q_79 h, q_80 h, ite_self, not_false_eq_true, not_true_eq_false, Nat.reduceEqDiff, reduceIte, true_and, and_true, false_and, and_false, ite_true, ite_false]; done)
    | (simp only [F316, F367_0_148, G316, G367_0_148, M49, zup2, zup1, zite2, zite1, upd_r, q_77 h, q_78 h, q_79 h, q_80 h, ite_self, not_false_eq_true, not_true_eq_false, Nat.reduceEqDiff, reduceIte, true_and, and_true, false_and, and_false, ite_true, ite_false]; first | exact h3 | grind [zb] | (funext b; grind [zb]))
  · first
    | exact h4
    | (simp only [F316, F367_0_148, G316, G367_0_148, M49, zup2, zup1, zite2, zite1, upd_r, q_77 h, q_78 h, q_79 h, q_80 h, ite_self, not_false_eq_true, not_true_eq_false, Nat.reduceEqDiff, reduceIte, true_and, and_true, false_and, and_false, ite_true, ite_false]; done)
    | (simp only [F316, F367_0_148, G316, G367_0_148, M49, zup2, zup1, zite2, zite1, upd_r, q_77 h, q_78 h, q_79 h, q_80 h, ite_self, not_false_eq_true, not_true_eq_false, Nat.reduceEqDiff, reduceIte, true_and, and_true, false_and, and_false, ite_true, ite_false]; first | exact h4 | (intro j; have hj := h4 j; grind [zb, zo, zn, zlt_m1, zlt_0, zlt_1]) | grind [zb] | (funext b; grind [zb]))
  · first
    | exact h5
    | (simp only [F316, F367_0_148, G316, G367_0_148, M49, zup2, zup1, zite2, zite1, upd_r, q_77 h, q_78 h, q_79 h, q_80 h, ite_self, not_false_eq_true, not_true_eq_false, Nat.reduceEqDiff, reduceIte, true_and, and_true, false_and, and_false, ite_true, ite_false]; done)
    | (simp only [F316, F367_0_148, G316, G367_0_148, M49, zup2, zup1, zite2, zite1, upd_r, q_77 h, q_78 h, q_79 h, q_80 h, ite_self, not_false_eq_true, not_true_eq_false, Nat.reduceEqDiff, reduceIte, true_and, and_true, false_and, and_false, ite_true, ite_false]; first | exact h5 | (intro j; have hj := h5 j; grind [zb, zo, zn, zlt_m1, zlt_0, zlt_1]) | grind [zb] | (funext b; grind [zb]))

/-! call 50: the class and the reference answer alike (wip/whole/man/50.txt) -/
set_option maxHeartbeats 200000 in
theorem zyr50 {n : Nat} {S T : zS} (q1 : Int32) (h : zR n S T) : (zb (¬ ((¬ (q1 < 0)) ∧ (¬ (2 < q1))))) = (F368_0_148 q1 S) ∧ ((F368_0_148 q1 S) = 0 → ((G368_0_148 q1 S) 148 0) = (if ((zb (¬ ((¬ (q1 < 0)) ∧ (¬ (2 < q1))))) = 0) then ((T 147 q1.toNatClampNeg) : Int32) else 0)) := by
  first
  | (simp only [F368_0_148, G368_0_148, zup2, zup1, zite2, zite1, upd_r, q_80 h, ite_self, not_false_eq_true, not_true_eq_false, Nat.reduceEqDiff, reduceIte, true_and, and_true, false_and, and_false, ite_true, ite_false]; done)
  | (simp only [F368_0_148, G368_0_148, zup2, zup1, zite2, zite1, upd_r, q_80 h, ite_self, not_false_eq_true, not_true_eq_false, Nat.reduceEqDiff, reduceIte, true_and, and_true, false_and, and_false, ite_true, ite_false]; grind [zb])
