/-! what the requests answer, further -/
theorem jq163 {n : Nat} {S : zS} (hn : n + 1 < 500) (h : jI n S) {a b c d e : Int32} (h0 : 0 ≤ a.toInt) (hc : zx 216 c) (hd : 1 ≤ d.toInt ∧ d.toInt ≤ 50) (he : d.toInt ≤ e.toInt ∧ e.toInt ≤ 100) : jI (n + 1) (B163 a b c d e S) ∧ ((jRef (A163 a b c d e S) ∧ B163 a b c d e S 6 0 = S 6 0) ∨ (¬ S 1 6 = 0 ∧ S 16 (c / 36).toNatClampNeg = 1 ∧ A163 a b c d e S = S 6 0 ∧ B163 a b c d e S 6 0 = (S 6 0) + 1 ∧ (B163 a b c d e S 44 (S 6 0).toNatClampNeg).toInt ≤ (S 0 11).toInt + d.toInt ∧ (B163 a b c d e S 46 (S 6 0).toNatClampNeg = 0 → B163 a b c d e S 40 a.toNatClampNeg = 0) ∧ a.toInt < (S 5 0).toInt)) := by
  obtain ⟨k, hJ, _, _⟩ := jadm h a b c 8
  have hq := jreq (by omega) h (b := b) (p := c) (q := 8) (F := F205 a c d e (G196 a b c 8 S)) (G := G205 a c d e (G196 a b c 8 S)) h0 hc (fun g1 g2 g3 g4 => by
      obtain ⟨m1, m2, m3, m4, m5, _⟩ := jm205 (by omega) g1 a c d e ⟨h0, by rw [k.1 5 rfl]; exact g3⟩ (by rw [k.1 40 rfl]; exact g4) hc hd he
      exact ⟨m1, by rw [m3, k.1 5 rfl], by rw [m4, k.1 40 rfl], m5, m2.1, m2.2.1, m2.2.2.1, m2.2.2.2⟩)
  refine ⟨hq.1, ?_⟩
  obtain ⟨q1, q2, q3⟩ := hq
  have q1 : jI (n + 1) (B163 a b c d e S) := q1
  have k6 : ∀ v : Int32, ∀ M : zS, G197 a c 8 v M 6 0 = M 6 0 := fun v M => congrFun ((p_G197 a c 8 v M).1 6 rfl) 0
  unfold A163 B163 at *
  rcases jrf h a b c 8 with ⟨e1, e6, _, f1, f2⟩ | ⟨e1, e2⟩
  · simp only [if_pos e1] at q1 q3 ⊢
    obtain ⟨m1, m2, m3, m4, m5, m6, m7⟩ := jm205 (by omega) hJ a c d e ⟨h0, by rw [k.1 5 rfl]; exact f1⟩ (by rw [k.1 40 rfl]; exact f2) hc hd he
    rw [k.1 16 rfl, k.1 6 rfl, k.1 0 rfl] at m6
    rw [k.1 6 rfl] at m7
    have kc := p_G197 a c 8 (F205 a c d e (G196 a b c 8 S)) (G205 a c d e (G196 a b c 8 S))
    by_cases hneg : (F205 a c d e (G196 a b c 8 S)).toInt < 0
    · refine Or.inl ⟨⟨m2.1, ?_⟩, by rw [k6]; exact m7 hneg⟩
      have h9 : ¬ (F205 a c d e (G196 a b c 8 S)).toInt = -1 := by
        intro e9
        have e10 : F205 a c d e (G196 a b c 8 S) = -1 := zk_eq.mpr e9
        have : ∀ {P Q R : Prop} [Decidable P] [Decidable Q] [Decidable R] {x : Int32}, 0 ≤ x.toInt → ¬ (if P then ((if ¬ Q then ((-11) : Int32) else (if R then (x : Int32) else (-12))) : Int32) else (-13)) = -1 := by
          intro P Q R _ _ _ x hx
          split
          · split
            · decide
            · split
              · intro e9; rw [e9] at hx; exact absurd hx (by decide)
              · decide
          · decide
        refine this ?_ (by unfold F205 at e10; exact e10)
        rw [(p_G49 _ _).1 6 rfl, k.1 6 rfl]; exact (rLea_0 (jI_Lea h)).1
      omega
    · obtain ⟨n1, n2, n3, n4, n5, n6⟩ := m6 (by omega)
      rw [n2] at q1 q3 kc ⊢
      have hm : (S 6 0).toNatClampNeg < ((S 6 0) + 1).toNatClampNeg := by
        have h6 := rLea_0 (jI_Lea h)
        have e := jk_p _ h6 (by decide)
        have := zk_nat h6.1
        have := zk_nat (x := (S 6 0) + 1) (by unfold zn at h6; omega)
        omega
      have hr6 : G197 a c 8 (S 6 0) (G205 a c d e (G196 a b c 8 S)) 6 0 = (S 6 0) + 1 := by rw [k6]; exact n3
      refine Or.inr ⟨e6, n1, rfl, hr6, ?_, fun e9 => ?_, f1⟩
      · by_cases hl : G197 a c 8 (S 6 0) (G205 a c d e (G196 a b c 8 S)) 46 (S 6 0).toNatClampNeg = 0
        · rw [(q3 _ hl).2]; exact n6
        · have := ((jI_End q1) (S 6 0).toNatClampNeg (by rw [hr6]; exact hm)).2 hl
          rw [kc.1 0 rfl, show G205 a c d e (G196 a b c 8 S) 0 11 = S 0 11 by rw [(p_G205 a c d e (G196 a b c 8 S)).1 0 rfl, k.1 0 rfl]] at this
          omega
      · have := ((jI_LT q1) (S 6 0).toNatClampNeg (by rw [hr6]; exact hm) e9).1
        rw [show G197 a c 8 (S 6 0) (G205 a c d e (G196 a b c 8 S)) 41 = G205 a c d e (G196 a b c 8 S) 41 from kc.1 41 rfl, n5] at this
        exact this
  · simp only [if_neg e1]
    exact Or.inl ⟨e2, by rw [k6, k.1 6 rfl]⟩
/-- a read is wrapped: its middle -/
theorem jm170 {n : Nat} {S : zS} (h : jJ n S) (v : Int32) (hv : zn 9999 v) (hlt : S 10 0 < 20) : jJ n (z_up (z_up (z_up S 63 (S 10 0).toNatClampNeg v) 64 (S 10 0).toNatClampNeg (S 0 11)) 10 0 ((S 10 0) + 1)) := by
  have hp : zkp [63, 64, 10] [10000] S (z_up (z_up (z_up S 63 (S 10 0).toNatClampNeg v) 64 (S 10 0).toNatClampNeg (S 0 11)) 10 0 ((S 10 0) + 1)) := zkp_upf (zkp_up (zkp_up zkp_S rfl rfl) rfl rfl) rfl rfl
  have hW := jJ_Wra h
  have h0 := rWra_0 hW
  have hlt : (S 10 0).toInt < 20 := by rw [zk_lt] at hlt; exact hlt
  have e := jk_p _ h0 (by decide)
  have hn1 := zk_nat h0.1
  have hn2 := zk_nat (x := (S 10 0) + 1) (by unfold zn at h0; omega)
  have kW : jWra (z_up (z_up (z_up S 63 (S 10 0).toNatClampNeg v) 64 (S 10 0).toNatClampNeg (S 0 11)) 10 0 ((S 10 0) + 1)) := by
    unfold jWra at hW ⊢
    obtain ⟨w1, w2, w3⟩ := hW
    simp only [zup1, Nat.reduceEqDiff, reduceIte, upd_r]
    refine ⟨by unfold zn at *; omega, fun j hj => ?_, fun j hj => w3 j (by omega)⟩
    by_cases hjm : j = (S 10 0).toNatClampNeg
    · rw [if_pos hjm]; exact hv
    · rw [if_neg hjm]; exact w2 j (by omega)
  exact (by unfold jJ; exact ⟨(jSea_k rfl hp (jJ_Sea h)), (jKey_k rfl hp (jJ_Key h)), (jEng_k rfl hp (jJ_Eng h)), (jPpl_k rfl hp (jJ_Ppl h)), (jTok_k rfl hp (jJ_Tok h)), (jTim_k rfl hp (jJ_Tim h)), (jLea_k rfl hp (jJ_Lea h)), (jEnd_k rfl hp (jJ_End h)), (jLT_k rfl hp (jJ_LT h)), (jCnt_k rfl hp (jJ_Cnt h)), (jSto_k rfl hp (jJ_Sto h)), (jFar_k rfl hp (jJ_Far h)), kW, (jCas_k rfl hp (jJ_Cas h)), (jCer_k rfl hp (jJ_Cer h)), (jSin_k rfl hp (jJ_Sin h))⟩)
def jF170 (a c d : Int32) (M : zS) : Int32 := if F202 a c d M < 0 then F202 a c d M else if (G202 a c d M) 10 0 < 20 then (G202 a c d M) 10 0 else (-11)
def jG170 (a c d : Int32) (M : zS) : zS := if F202 a c d M < 0 then G202 a c d M else if (G202 a c d M) 10 0 < 20 then (z_up (z_up (z_up (G202 a c d M) 63 ((G202 a c d M) 10 0).toNatClampNeg (F202 a c d M)) 64 ((G202 a c d M) 10 0).toNatClampNeg ((G202 a c d M) 0 11)) 10 0 (((G202 a c d M) 10 0) + 1)) else G202 a c d M
theorem j170_e {n : Nat} {S : zS} (h : jI n S) (a b c d : Int32) : A170 a b c d S = (if F196 a b c 1 S = 0 then jF170 a c d (G196 a b c 1 S) else F196 a b c 1 S) ∧ B170 a b c d S = G197 a c 1 (if F196 a b c 1 S = 0 then jF170 a c d (G196 a b c 1 S) else F196 a b c 1 S) (if F196 a b c 1 S = 0 then jG170 a c d (G196 a b c 1 S) else G196 a b c 1 S) := by
  unfold A170 B170 jF170 jG170
  rcases jrf h a b c 1 with ⟨e1, _⟩ | ⟨e1, e2⟩
  · simp only [if_pos e1]; exact ⟨trivial, trivial⟩
  · have hneg : F196 a b c 1 S < 0 := by rw [zk_lt, jk_0]; have := e2.2; omega
    simp only [if_neg e1, if_pos hneg]; exact ⟨trivial, trivial⟩
theorem jq170 {n : Nat} {S : zS} (hn : n + 1 < 500) (h : jI n S) {a b c : Int32} (d : Int32) (h0 : 0 ≤ a.toInt) (hc : zx 216 c) : jI (n + 1) (B170 a b c d S) ∧ ((jRef (A170 a b c d S) ∧ B170 a b c d S 10 0 = S 10 0) ∨ (¬ S 1 6 = 0 ∧ A170 a b c d S = S 10 0 ∧ B170 a b c d S 10 0 = (S 10 0) + 1 ∧ zn 9999 (B170 a b c d S 63 (S 10 0).toNatClampNeg) ∧ B170 a b c d S 64 (S 10 0).toNatClampNeg = S 0 11 ∧ B170 a b c d S 65 (S 10 0).toNatClampNeg = 0)) := by
  obtain ⟨k, hJ, _, _⟩ := jadm h a b c 1
  obtain ⟨eA, eB⟩ := j170_e h a b c d
  have k10 : ∀ v : Int32, ∀ M : zS, G197 a c 1 v M 10 0 = M 10 0 := fun v M => congrFun ((p_G197 a c 1 v M).1 10 rfl) 0
  have kp := p_G202 a c d (G196 a b c 1 S)
  have g10 : G202 a c d (G196 a b c 1 S) 10 0 = S 10 0 := by rw [kp.2 10 0 rfl rfl, k.1 10 rfl]
  have g65 : G202 a c d (G196 a b c 1 S) 65 = S 65 := by rw [kp.1 65 rfl, k.1 65 rfl]
  have g0 : G202 a c d (G196 a b c 1 S) 0 = S 0 := by rw [kp.1 0 rfl, k.1 0 rfl]
  have hv := jv202 (jJ_Sto hJ) a c d
  have h10 := rWra_0 (jI_Wra h)
  have hmid : ∀ g3 : a.toInt < (S 5 0).toInt, jJ n (G202 a c d (G196 a b c 1 S)) := fun g3 => (jm202 hJ a c d (jtx h h0 g3) hc (by rw [k.1 5 rfl]; exact jt0 h0 g3)).1
  rw [eA, eB]
  refine ⟨?_, ?_⟩
  · exact (jreq (by omega) h (b := b) (p := c) (q := 1) (F := jF170 a c d (G196 a b c 1 S)) (G := jG170 a c d (G196 a b c 1 S)) h0 hc (fun g1 g2 g3 g4 => by
      have m1 := hmid g3
      unfold jF170 jG170
      by_cases c0 : F202 a c d (G196 a b c 1 S) < 0
      · rw [if_pos c0, if_pos c0]
        have c0' := c0
        rw [zk_lt, jk_0] at c0'
        have hr : jRef (F202 a c d (G196 a b c 1 S)) := hv.elim id (fun e => by have := e.1.1; omega)
        have hj := (jm202 hJ a c d (jtx h h0 g3) hc (by rw [k.1 5 rfl]; exact jt0 h0 g3)).2
        exact ⟨jJ_u (Nat.le_succ n) m1, by rw [kp.1 5 rfl, k.1 5 rfl], by rw [kp.1 40 rfl, k.1 40 rfl], kp.1 37 rfl, hj.1, hj.2.1, hj.2.2.1, hj.2.2.2⟩
      · rw [if_neg c0, if_neg c0]
        rw [zk_lt, jk_0] at c0
        have hz := (hv.resolve_left (fun e => by have := e.2; omega)).1
        by_cases c1 : G202 a c d (G196 a b c 1 S) 10 0 < 20
        · rw [if_pos c1, if_pos c1]
          have hj : jAns (G202 a c d (G196 a b c 1 S) 10 0) := by rw [g10]; exact jAns_n (zn_mono h10 (by decide))
          refine ⟨jJ_u (Nat.le_succ n) (jm170 m1 _ hz c1), ?_, ?_, ?_, hj.1, hj.2.1, hj.2.2.1, hj.2.2.2⟩
          · simp only [zup1, Nat.reduceEqDiff, reduceIte]; rw [kp.1 5 rfl, k.1 5 rfl]
          · simp only [zup1, Nat.reduceEqDiff, reduceIte]; rw [kp.1 40 rfl, k.1 40 rfl]
          · simp only [zup1, Nat.reduceEqDiff, reduceIte]; exact kp.1 37 rfl
        · rw [if_neg c1, if_neg c1]
          exact ⟨jJ_u (Nat.le_succ n) m1, by rw [kp.1 5 rfl, k.1 5 rfl], by rw [kp.1 40 rfl, k.1 40 rfl], kp.1 37 rfl, by decide, by decide, by decide, by decide⟩)).1
  · rcases jrf h a b c 1 with ⟨e1, e6, _, f1, f2⟩ | ⟨e1, e2⟩
    · simp only [if_pos e1]
      unfold jF170 jG170
      by_cases c0 : F202 a c d (G196 a b c 1 S) < 0
      · simp only [if_pos c0]
        rw [zk_lt, jk_0] at c0
        exact Or.inl ⟨hv.elim id (fun e => by have := e.1.1; omega), by rw [k10]; exact g10⟩
      · simp only [if_neg c0]
        rw [zk_lt, jk_0] at c0
        have hz := (hv.resolve_left (fun e => by have := e.2; omega)).1
        by_cases c1 : G202 a c d (G196 a b c 1 S) 10 0 < 20
        · simp only [if_pos c1]
          rw [g10]
          have kc := p_G197 a c 1 (S 10 0) (z_up (z_up (z_up (G202 a c d (G196 a b c 1 S)) 63 (S 10 0).toNatClampNeg (F202 a c d (G196 a b c 1 S))) 64 (S 10 0).toNatClampNeg ((G202 a c d (G196 a b c 1 S)) 0 11)) 10 0 ((S 10 0) + 1))
          refine Or.inr ⟨e6, rfl, ?_, ?_, ?_, ?_⟩
          · rw [kc.1 10 rfl]; exact zup_s _ _ _ _
          · rw [kc.1 63 rfl]; simp only [zup1, Nat.reduceEqDiff, reduceIte, upd_r]; exact hz
          · rw [kc.1 64 rfl]; simp only [zup1, Nat.reduceEqDiff, reduceIte, upd_r]; rw [g0]
          · rw [kc.1 65 rfl]; simp only [zup1, Nat.reduceEqDiff, reduceIte]; rw [g65]; exact (rWra_2 (jI_Wra h)) _ (Nat.le_refl _)
        · simp only [if_neg c1]
          exact Or.inl ⟨jRef_c (by decide), by rw [k10]; exact g10⟩
    · simp only [if_neg e1]
      exact Or.inl ⟨e2, by rw [k10, k.1 10 rfl]⟩
/-- a case is approved of -/
theorem jq172 {n : Nat} {S : zS} (hn : n + 1 < 500) (h : jI n S) {a b c : Int32} (h0 : 0 ≤ a.toInt) (hc0 : 0 ≤ c.toInt) (hc1 : c.toInt < (S 10 4).toInt) : jI (n + 1) (B172 a b c S) ∧ B172 a b c S 32 = S 32 ∧ (jRef (A172 a b c S) ∨ (1 ≤ (A172 a b c S).toInt ∧ (A172 a b c S).toInt ≤ 8 ∧ A172 a b c S = F322 ((S 70 c.toNatClampNeg) ||| (zshl 1 (S 32 a.toNatClampNeg))) S ∧ B172 a b c S 70 c.toNatClampNeg = ((S 70 c.toNatClampNeg) ||| (zshl 1 (S 32 a.toNatClampNeg))))) := by
  have hC := jI_Cas h
  have h104 := rCas_0 hC
  have hx : zx 20 c := by rw [zx_iff]; have := h104.2; omega
  have hp := (rCas_4 hC) c.toNatClampNeg (by have := zk_nat hc0; have := h104.2; omega)
  unfold A172 B172
  generalize S 67 c.toNatClampNeg = p at hp
  obtain ⟨k, hJ, _, _⟩ := jadm h a b p 8
  obtain ⟨m1, m2, m3⟩ := jm206 hJ a c hx (by rw [k.1 10 rfl]; exact hc1)
  have kp := p_G206 a c (G196 a b p 8 S)
  refine ⟨?_, ?_, ?_⟩
  · exact (jreq (by omega) h (b := b) (p := p) (q := 8) (F := F206 a c (G196 a b p 8 S)) (G := G206 a c (G196 a b p 8 S)) h0 hp (fun g1 g2 g3 g4 =>
      ⟨jJ_u (Nat.le_succ n) m1, by rw [kp.1 5 rfl, k.1 5 rfl], by rw [kp.1 40 rfl, k.1 40 rfl], kp.1 37 rfl, m2.1, m2.2.1, m2.2.2.1, m2.2.2.2⟩)).1
  · rw [(p_G197 a p 8 _ _).1 32 rfl]
    split
    · rw [kp.1 32 rfl, k.1 32 rfl]
    · rw [k.1 32 rfl]
  · rcases jrf h a b p 8 with ⟨e1, e6, _, f1, f2⟩ | ⟨e1, e2⟩
    · simp only [if_pos e1]
      have kc := p_G197 a p 8 (F206 a c (G196 a b p 8 S)) (G206 a c (G196 a b p 8 S))
      by_cases hpos : 1 ≤ (F206 a c (G196 a b p 8 S)).toInt
      · right
        rcases m3 with e | e | ⟨e3, e4⟩
        · rw [e] at hpos; exact absurd hpos (by decide)
        · rw [e] at hpos; exact absurd hpos (by decide)
        · refine ⟨e3, e4, ?_⟩
          rw [kc.1 70 rfl]
          unfold F206 G206 at *
          rw [k.1 71 rfl, k.1 66 rfl, k.1 32 rfl, k.1 70 rfl] at *
          by_cases c0 : S 71 c.toNatClampNeg = 0
          · simp only [if_pos c0] at hpos ⊢
            by_cases c1 : a = S 66 c.toNatClampNeg
            · simp only [if_pos c1] at hpos; exact absurd hpos (by decide)
            · simp only [if_neg c1] at hpos ⊢
              by_cases c2 : S 32 a.toNatClampNeg = -1
              · simp only [if_pos c2] at hpos; exact absurd hpos (by decide)
              · simp only [if_neg c2] at hpos ⊢
                by_cases c3 : S 32 a.toNatClampNeg = S 32 (S 66 c.toNatClampNeg).toNatClampNeg
                · simp only [if_pos c3] at hpos; exact absurd hpos (by decide)
                · simp only [if_neg c3]
                  exact ⟨F322_S _ _ _, zup_s _ _ _ _⟩
          · simp only [if_neg c0] at hpos; exact absurd hpos (by decide)
      · left
        rcases m3 with e | e | ⟨e3, e4⟩
        · rw [e]; exact jRef_c (by decide)
        · rw [e]; exact jRef_c (by decide)
        · exact absurd e3 hpos
    · simp only [if_neg e1]
      exact Or.inl e2
/-- a case is taken up -/
theorem jq173 {n : Nat} {S : zS} (hn : n + 1 < 500) (h : jI n S) {a b c : Int32} (h0 : 0 ≤ a.toInt) (hc0 : 0 ≤ c.toInt) (hc1 : c.toInt < (S 10 4).toInt) : jI (n + 1) (B173 a b c S) ∧ (jRef (A173 a b c S) ∨ (zn 9999 (A173 a b c S) ∧ S 71 c.toNatClampNeg = 0 ∧ B173 a b c S 71 c.toNatClampNeg = 1)) := by
  have hC := jI_Cas h
  have h104 := rCas_0 hC
  have hx : zx 20 c := by rw [zx_iff]; have := h104.2; omega
  have hp := (rCas_4 hC) c.toNatClampNeg (by have := zk_nat hc0; have := h104.2; omega)
  unfold A173 B173
  generalize S 67 c.toNatClampNeg = p at hp
  obtain ⟨k, hJ, _, _⟩ := jadm h a b p 1
  obtain ⟨m1, m2, m3, m4, m5⟩ := jm207 hJ a c hx (by rw [k.1 10 rfl]; exact hc1)
  have kp := p_G207 a c (G196 a b p 1 S)
  refine ⟨?_, ?_⟩
  · exact (jreq (by omega) h (b := b) (p := p) (q := 1) (F := F207 a c (G196 a b p 1 S)) (G := G207 a c (G196 a b p 1 S)) h0 hp (fun g1 g2 g3 g4 =>
      ⟨jJ_u (Nat.le_succ n) m1, by rw [kp.1 5 rfl, k.1 5 rfl], by rw [kp.1 40 rfl, k.1 40 rfl], kp.1 37 rfl, m2.1, m2.2.1, m2.2.2.1, m2.2.2.2⟩)).1
  · rcases jrf h a b p 1 with ⟨e1, e6, _, f1, f2⟩ | ⟨e1, e2⟩
    · simp only [if_pos e1]
      have kc := p_G197 a p 1 (F207 a c (G196 a b p 1 S)) (G207 a c (G196 a b p 1 S))
      have hm1 : ¬ (F207 a c (G196 a b p 1 S)).toInt = -1 := fun e => m5 (zk_eq.mpr e)
      by_cases hneg : (F207 a c (G196 a b p 1 S)).toInt < 0
      · exact Or.inl ⟨m2.1, by omega⟩
      · refine Or.inr ⟨⟨by omega, m2.2.1⟩, ?_, by rw [kc.1 71 rfl]; exact m3 (by omega)⟩
        by_cases c0 : S 71 c.toNatClampNeg = 0
        · exact c0
        · have : F207 a c (G196 a b p 1 S) = -7 := by unfold F207; rw [k.1 71 rfl, if_neg c0]
          rw [this] at hneg; exact absurd (by decide) hneg
    · simp only [if_neg e1]
      exact Or.inl e2
/-- a certificate is issued -/
theorem jq175 {n : Nat} {S : zS} (hn : n + 1 < 500) (h : jI n S) {a b c d : Int32} (h0 : 0 ≤ a.toInt) (hc : zx 216 c) (hd : 1 ≤ d.toInt ∧ d.toInt ≤ 200) : jI (n + 1) (B175 a b c d S) ∧ ((jRef (A175 a b c d S) ∧ B175 a b c d S 11 0 = S 11 0) ∨ (¬ S 1 6 = 0 ∧ A175 a b c d S = S 11 0 ∧ B175 a b c d S 11 0 = (S 11 0) + 1 ∧ A178 (S 11 0) (B175 a b c d S) = 1 ∧ B175 a b c d S 75 = S 75 ∧ B175 a b c d S 72 (S 11 0).toNatClampNeg = c)) := by
  obtain ⟨k, hJ, _, _⟩ := jadm h a b c 8
  obtain ⟨m1, m2, m3, m4, m5⟩ := jm208 hJ c d hc hd (by omega)
  have kp := p_G208 c d (G196 a b c 8 S)
  unfold A175 B175
  refine ⟨?_, ?_⟩
  · exact (jreq (by omega) h (b := b) (p := c) (q := 8) (F := F208 c d (G196 a b c 8 S)) (G := G208 c d (G196 a b c 8 S)) h0 hc (fun g1 g2 g3 g4 =>
      ⟨jJ_u (Nat.le_succ n) m1, by rw [kp.1 5 rfl, k.1 5 rfl], by rw [kp.1 40 rfl, k.1 40 rfl], kp.1 37 rfl, m2.1, m2.2.1, m2.2.2.1, m2.2.2.2⟩)).1
  · rcases jrf h a b c 8 with ⟨e1, e6, _, f1, f2⟩ | ⟨e1, e2⟩
    · simp only [if_pos e1]
      have hm1 : ¬ (F208 c d (G196 a b c 8 S)).toInt = -1 := fun e => m5 (zk_eq.mpr e)
      rw [k.1 11 rfl, k.1 0 rfl] at m3
      rw [k.1 11 rfl] at m4
      by_cases hneg : (F208 c d (G196 a b c 8 S)).toInt < 0
      · exact Or.inl ⟨⟨m2.1, by omega⟩, by rw [(p_G197 a c 8 _ _).1 11 rfl]; exact m4 hneg⟩
      · obtain ⟨n1, n2, n3⟩ := m3 (by omega)
        rw [n1]
        have kc := p_G197 a c 8 (S 11 0) (G208 c d (G196 a b c 8 S))
        refine Or.inr ⟨e6, rfl, by rw [kc.1 11 rfl]; exact n2, ?_, by rw [kc.1 75 rfl, kp.1 75 rfl, k.1 75 rfl], ?_⟩
        · unfold A178
          rw [kc.1 0 rfl, show G208 c d (G196 a b c 8 S) 0 11 = S 0 11 by rw [kp.1 0 rfl, k.1 0 rfl]]
          unfold F7 at n3 ⊢
          rw [kc.1 73 rfl, kc.1 74 rfl, kc.1 76 rfl]
          exact n3
        · rw [kc.1 72 rfl]
          unfold G208 F208 at *
          rw [k.1 16 rfl, k.1 11 rfl] at *
          by_cases c0 : S 16 (c / 36).toNatClampNeg = 2
          · simp only [if_pos c0] at n1 ⊢
            by_cases c1 : S 11 0 < 30
            · simp only [if_neg (show ¬ ¬ S 11 0 < 30 from fun e => e c1)] at n1 ⊢
              have r72 : ∀ v w : Int32, G4 c v w (G196 a b c 8 S) 72 (S 11 0).toNatClampNeg = c := fun v w => by simp only [G4, zup1, Nat.reduceEqDiff, reduceIte, upd_r]; rw [k.1 11 rfl]; exact if_pos rfl
              by_cases c2 : F3 c (G196 a b c 8 S) = -1
              · simp only [if_pos c2]; exact r72 _ _
              · simp only [if_neg c2] at n1 ⊢
                by_cases c3 : F7 (F3 c (G196 a b c 8 S)) (G196 a b c 8 S 0 11) (G196 a b c 8 S) = 0
                · simp only [if_pos c3] at n1
                  have := (rCer_0 (jI_Cer h)).1
                  rw [← n1] at this; exact absurd this (by decide)
                · simp only [if_neg c3]; exact r72 _ _
            · simp only [if_pos (show ¬ S 11 0 < 30 from c1)] at n1
              have := (rCer_0 (jI_Cer h)).1
              rw [← n1] at this; exact absurd this (by decide)
          · simp only [if_neg c0] at n1
            have := (rCer_0 (jI_Cer h)).1
            rw [← n1] at this; exact absurd this (by decide)
    · simp only [if_neg e1]
      exact Or.inl ⟨e2, by rw [(p_G197 a c 8 _ _).1 11 rfl, k.1 11 rfl]⟩
