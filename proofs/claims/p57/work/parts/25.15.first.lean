/-! the first state -/
def z0 (X : Nat → Int32) : zS := fun c =>
  if c = 1 then (fun i => if i = 0 then -1 else 0)
  else if c = 2 then (fun i => if i = 0 then 1 else if i = 3 then 1 else if i = 4 then 1000 else if i = 5 then 1000 else 0)
  else if c = 15 then (fun i => if i < 7 then -1 else 0)
  else if c = 16 then (fun i => if i < 6 then -1 else 0)
  else if c = 18 then (fun i => if i < 6 then 100 else 0)
  else if c = 24 then (fun i => if i < 18 then -1 else 0)
  else if c = 1000 then X
  else fun _ => 0
theorem zn00 (N : Nat) : zn N 0 := by
  unfold zn
  rw [jk_0]; omega
theorem zx00 (N : Nat) (h : 0 < N) : zx N 0 := by rw [zx_iff, jk_0]; omega
section Z0
variable {X : Nat → Int32}
theorem z0_Key : jKey 0 (z0 X) := ⟨zn00 _, (show 1 ≤ (1 : Int32).toInt by decide), (show (1 : Int32).toInt ≤ (1 : Int32).toInt by decide), (show (1 : Int32).toInt ≤ 1 + 60 * ((0 : Nat) : Int) by decide)⟩
theorem z0_Eng : jEng (z0 X) := by
  refine ⟨fun f hf => ?_, fun j _ => zx00 _ (by decide), fun f hf => ?_⟩
  · show -1 ≤ (if f < 6 then (-1 : Int32) else 0).toInt ∧ (if f < 6 then (-1 : Int32) else 0).toInt ≤ 2
    rw [if_pos hf]; decide
  · show zn 100 (if f < 6 then (100 : Int32) else 0)
    rw [if_pos hf]; unfold zn; decide
theorem z0_Ppl : jPpl (z0 X) := by
  refine ⟨fun j hj => ?_, fun j _ => zn00 _, fun j _ => zn00 _⟩
  show -1 ≤ (if j < 18 then (-1 : Int32) else 0).toInt ∧ (if j < 18 then (-1 : Int32) else 0).toInt ≤ 7
  rw [if_pos hj]; decide
theorem z0_Tok : jTok (z0 X) := ⟨zn00 _, fun _ => (show -1 ≤ (0 : Int32).toInt ∧ (0 : Int32).toInt ≤ 7 by decide), fun _ => Or.inl rfl, fun _ => Or.inl rfl, fun _ _ => rfl, fun _ => (show -1 ≤ (0 : Int32).toInt ∧ (0 : Int32).toInt ≤ 20 by decide), fun j hj => absurd hj (Nat.not_lt_zero _)⟩
theorem z0_Tim : jTim (z0 X) := fun j hj => absurd hj (Nat.not_lt_zero _)
theorem z0_Use : jUse (z0 X) := fun j hj => absurd hj (Nat.not_lt_zero _)
theorem z0_Lea : jLea (z0 X) := ⟨zn00 _, fun _ _ => zx00 _ (by decide), fun _ _ => zx00 _ (by decide), fun _ => zn00 _, fun _ _ => zn00 _⟩
theorem z0_End : jEnd (z0 X) := fun j hj => absurd hj (Nat.not_lt_zero _)
theorem z0_LT : jLT (z0 X) := fun j hj => absurd hj (Nat.not_lt_zero _)
theorem z0_Cnt : jCnt 0 (z0 X) := fun _ _ => ⟨zn00 _, rfl⟩
theorem z0_Sto : jSto 0 (z0 X) := ⟨fun _ _ => zn00 _, fun _ _ => zn00 _, fun _ => Int.le_refl _, fun _ => zn00 _⟩
theorem z0_Far : jFar 0 (z0 X) := ⟨zn00 _, zn00 _, Int.le_refl _, fun _ _ => zx00 _ (by decide), fun _ _ => ⟨Int.le_refl _, Int.le_refl _⟩⟩
theorem z0_Wra : jWra (z0 X) := ⟨zn00 _, fun j hj => absurd hj (Nat.not_lt_zero _), fun _ _ => rfl⟩
theorem z0_Cas : jCas (z0 X) := ⟨zn00 _, fun _ _ => ⟨rfl, rfl⟩, fun _ => zn00 _, fun _ _ => zx00 _ (by decide), fun _ _ => zx00 _ (by decide), fun _ => rfl⟩
theorem z0_Cer : jCer (z0 X) := ⟨zn00 _, fun j hj => absurd hj (Nat.not_lt_zero _), fun j hj => absurd hj (Nat.not_lt_zero _), fun _ => Or.inl rfl, fun _ => Or.inl rfl, fun _ _ => ⟨rfl, rfl⟩⟩
theorem z0_Sin : jSin (z0 X) := ⟨fun _ => Or.inl rfl, fun _ => Or.inl rfl, fun _ _ => zn00 _, fun _ _ => zx00 _ (by decide)⟩
end Z0
/-- begun: engines from i on are not mounted, no rule, nobody's login, no policy -/
def jB (i : Nat) (S : zS) : Prop := jLaw 0 S ∧ (∀ f, i ≤ f → f < 6 → S 16 f = -1) ∧ S 20 = (fun _ => 0) ∧ (∀ j, j < 18 → S 24 j = -1) ∧ S 25 = (fun _ => 0) ∧ S 26 = (fun _ => 0) ∧ S 27 = (fun _ => 0)
theorem jfirst {X : Nat → Int32} {a b c : Int32} (ha : 0 ≤ a.toInt ∧ a.toInt ≤ 65535) (hb : 1 ≤ b.toInt ∧ b.toInt ≤ 6) (hc : 1 ≤ c.toInt ∧ c.toInt ≤ b.toInt) : jB 0 (B131 a b c (z_up (z_up (z0 X) 13 6 b) 13 7 c)) ∧ B131 a b c (z_up (z_up (z0 X) 13 6 b) 13 7 c) 1 6 = 0 ∧ B131 a b c (z_up (z_up (z0 X) 13 6 b) 13 7 c) 2 0 = 1 := by
  obtain ⟨h1, h2, h3, h4, h5⟩ := jdeal (S := z_up (z_up (z0 X) 13 6 b) 13 7 c) (a := a) (b := b) (c := c) rfl ha hb hc
  have hp : zkp [1, 13, 14] [1000, 1001, 1002, 13006, 13007] (z0 X) (B131 a b c (z_up (z_up (z0 X) 13 6 b) 13 7 c)) := zkp_tr (zkp_upf (zkp_upf zkp_S rfl rfl) rfl rfl) h1 rfl rfl
  have e6 : B131 a b c (z_up (z_up (z0 X) 13 6 b) 13 7 c) 13 6 = b := by rw [h1.1 13 rfl, zupf rfl, zup_s]
  have e7 : B131 a b c (z_up (z_up (z0 X) 13 6 b) 13 7 c) 13 7 = c := by rw [h1.1 13 rfl, zup_s]
  generalize B131 a b c (z_up (z_up (z0 X) 13 6 b) 13 7 c) = S at *
  have r16 : S 1 6 = 0 := hp.2 1 6 rfl rfl
  have kS : jSea S := by
    unfold jSea
    rw [h2, h3]
    refine ⟨Or.inl r16, hb, hc, fun i hi => ?_, hp.2 1 5 rfl rfl, h4, h5⟩
    rw [hp.1 15 rfl]
    exact if_pos hi
  have hI : jI 0 S := by unfold jI; exact ⟨kS, (jKey_k rfl hp z0_Key), (jEng_k rfl hp z0_Eng), (jPpl_k rfl hp z0_Ppl), (jTok_k rfl hp z0_Tok), (jTim_k rfl hp z0_Tim), (jUse_k rfl hp z0_Use), (jLea_k rfl hp z0_Lea), (jEnd_k rfl hp z0_End), (jLT_k rfl hp z0_LT), (jCnt_k rfl hp z0_Cnt), (jSto_k rfl hp z0_Sto), (jFar_k rfl hp z0_Far), (jWra_k rfl hp z0_Wra), (jCas_k rfl hp z0_Cas), (jCer_k rfl hp z0_Cer), (jSin_k rfl hp z0_Sin)⟩
  refine ⟨⟨⟨hI, ?_, fun f hf => ?_⟩, fun f _ hf => ?_, hp.1 20 rfl, fun j hj => ?_, hp.1 25 rfl, hp.1 26 rfl, hp.1 27 rfl⟩, r16, hp.2 2 0 rfl rfl⟩
  · unfold jCx
    refine ⟨fun _ => ?_, fun _ => ?_, fun _ => ?_, fun _ => ?_, fun _ => ?_, fun _ => ?_, fun _ => ?_, fun _ => ?_, fun _ => ?_⟩
    · exact (hp.2 13 0 rfl rfl).trans (hp.2 0 11 rfl rfl).symm
    · exact (hp.2 13 1 rfl rfl).trans (hp.2 5 0 rfl rfl).symm
    · exact (hp.2 13 2 rfl rfl).trans (hp.2 6 0 rfl rfl).symm
    · exact (hp.2 13 3 rfl rfl).trans (hp.2 10 0 rfl rfl).symm
    · exact (hp.2 13 4 rfl rfl).trans (hp.2 10 4 rfl rfl).symm
    · exact (hp.2 13 5 rfl rfl).trans (hp.2 11 0 rfl rfl).symm
    · rw [e6, h2]
    · rw [e7, h3]
    · exact (hp.2 13 8 rfl rfl).trans r16.symm
  · rw [hp.1 81 rfl, hp.1 16 rfl]
    show (0 : Int32) = (if f < 6 then (-1 : Int32) else 0) + 1
    rw [if_pos hf]; rfl
  · rw [hp.1 16 rfl]; exact if_pos hf
  · rw [hp.1 24 rfl]; exact if_pos hj
/-- a rule more -/
theorem jrule {n : Nat} {S : zS} (w : jLaw n S) (a b c d e f : Int32) : jLaw n (B145 a b c d e f S) ∧ B145 a b c d e f S 20 = upd (S 20) a.toNatClampNeg ((S 20 a.toNatClampNeg) + 1) ∧ B145 a b c d e f S 24 = S 24 ∧ B145 a b c d e f S 25 = S 25 ∧ B145 a b c d e f S 26 = S 26 ∧ B145 a b c d e f S 27 = S 27 := by
  have hp := p_B145 a b c d e f S
  have h := w.1
  refine ⟨⟨by unfold jI; exact ⟨(jSea_k rfl hp (jI_Sea h)), (jKey_k rfl hp (jI_Key h)), (jEng_k rfl hp (jI_Eng h)), (jPpl_k rfl hp (jI_Ppl h)), (jTok_k rfl hp (jI_Tok h)), (jTim_k rfl hp (jI_Tim h)), (jUse_k rfl hp (jI_Use h)), (jLea_k rfl hp (jI_Lea h)), (jEnd_k rfl hp (jI_End h)), (jLT_k rfl hp (jI_LT h)), (jCnt_k rfl hp (jI_Cnt h)), (jSto_k rfl hp (jI_Sto h)), (jFar_k rfl hp (jI_Far h)), (jWra_k rfl hp (jI_Wra h)), (jCas_k rfl hp (jI_Cas h)), (jCer_k rfl hp (jI_Cer h)), (jSin_k rfl hp (jI_Sin h))⟩, jCx_k rfl hp w.2.1, jE_k rfl rfl hp w.2.2⟩, ?_, hp.1 24 rfl, hp.1 25 rfl, hp.1 26 rfl, hp.1 27 rfl⟩
  unfold B145 G62
  funext i
  rw [zup2, if_pos rfl]
  unfold upd
  by_cases hi : i = a.toNatClampNeg
  · rw [if_pos hi, if_pos hi]
  · rw [if_neg hi, if_neg hi, zupci rfl, zupci rfl, zupci rfl, zupci rfl, zupci rfl]
