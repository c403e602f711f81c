/-! what the requests answer, and what stands behind them -/
def jRef (x : Int32) : Prop := -13 ≤ x.toInt ∧ x.toInt < -1
theorem jRef_c {x : Int32} (h : (decide (-13 ≤ x.toInt) && decide (x.toInt < -1)) = true) : jRef x := by
  simp only [Bool.and_eq_true, decide_eq_true_eq] at h; exact h
theorem F107_cg {S S' : zS} (h51 : S' 51 = S 51) (a b : Int32) : F107 a b S' = F107 a b S := by
  unfold F107
  rw [h51]; rfl
theorem F110_cg {S S' : zS} (h51 : S' 51 = S 51) (h52 : S' 52 = S 52) (h53 : S' 53 = S 53) (h54 : S' 54 = S 54) (a b c : Int32) : F110 a b c S' = F110 a b c S := by
  unfold F110
  rw [F107_cg h51, h52, h53, h54]
/-- the first refusal -/
theorem jrf {n : Nat} {S : zS} (h : jI n S) (a b c d : Int32) : (F196 a b c d S = 0 ∧ ¬ S 1 6 = 0 ∧ 0 ≤ a.toInt ∧ a.toInt < (S 5 0).toInt ∧ S 40 a.toNatClampNeg = 0) ∨ (¬ F196 a b c d S = 0 ∧ jRef (F196 a b c d S)) := by
  obtain ⟨_, _, _, hc⟩ := jadm h a b c d
  rcases hc with ⟨_, e, _⟩ | ⟨_, e, _⟩ | ⟨e1, e, e2, e3, e4⟩
  · exact Or.inr (by rw [e]; exact ⟨by decide, jRef_c (by decide)⟩)
  · rcases e with e | e <;> exact Or.inr (by rw [e]; exact ⟨by decide, jRef_c (by decide)⟩)
  · rcases e with e | e | e
    · exact Or.inr (by rw [e]; exact ⟨by decide, jRef_c (by decide)⟩)
    · exact Or.inr (by rw [e]; exact ⟨by decide, jRef_c (by decide)⟩)
    · exact Or.inl ⟨e, e1, e2, e3, e4⟩
theorem jsealed {n : Nat} {S : zS} (h : jI n S) (a b c d : Int32) (h6 : S 1 6 = 0) : F196 a b c d S = -2 := by
  unfold F196; rw [if_pos h6]
theorem jt0 {S : zS} {a : Int32} (h0 : 0 ≤ a.toInt) (h1 : a.toInt < (S 5 0).toInt) : ¬ S 5 0 = 0 := fun e => by rw [e, jk_0] at h1; omega
theorem jtx {n : Nat} {S : zS} (h : jI n S) {a : Int32} (h0 : 0 ≤ a.toInt) (h1 : a.toInt < (S 5 0).toInt) : zx 40 a := by
  have := (rTok_0 (jI_Tok h)).2
  rw [zx_iff]; omega
/-- a read's number -/
theorem jv202 {n : Nat} {S : zS} (h : jSto n S) (a b c : Int32) : jRef (F202 a b c S) ∨ (zn 9999 (F202 a b c S) ∧ S 16 (b / 36).toNatClampNeg = 0 ∧ F202 a b c S = F110 b c (S 2 3) S) := by
  have hv : (zn 9999 (if ((S 16 (b / 36).toNatClampNeg) = 0) then ((F110 b c (S 2 3) S) : Int32) else (-13)) ∧ S 16 (b / 36).toNatClampNeg = 0 ∧ (if ((S 16 (b / 36).toNatClampNeg) = 0) then ((F110 b c (S 2 3) S) : Int32) else (-13)) = F110 b c (S 2 3) S) ∨ jRef (if ((S 16 (b / 36).toNatClampNeg) = 0) then ((F110 b c (S 2 3) S) : Int32) else (-13)) := by
    by_cases c0 : S 16 (b / 36).toNatClampNeg = 0
    · rw [if_pos c0]
      rcases jnum h b c (S 2 3) with e | e | e
      · exact Or.inl ⟨e, c0, rfl⟩
      · rw [e]; exact Or.inr (jRef_c (by decide))
      · rw [e]; exact Or.inr (jRef_c (by decide))
    · rw [if_neg c0]; exact Or.inr (jRef_c (by decide))
  unfold F202
  generalize (if ((S 16 (b / 36).toNatClampNeg) = 0) then ((F110 b c (S 2 3) S) : Int32) else (-13)) = v at hv ⊢
  generalize (F64 (S 33 a.toNatClampNeg) (S 32 a.toNatClampNeg) b S) / 16 = r
  have hm : (if v < 0 then (v : Int32) else (if r = 0 then (v : Int32) else (if ((S 10 4) < 20) then ((-10) : Int32) else (-11)))) = v ∨ jRef (if v < 0 then (v : Int32) else (if r = 0 then (v : Int32) else (if ((S 10 4) < 20) then ((-10) : Int32) else (-11)))) := by
    split
    · exact Or.inl rfl
    · split
      · exact Or.inl rfl
      · right; split <;> exact jRef_c (by decide)
  rcases hm with e | e
  · rw [e]; exact hv.symm
  · exact Or.inl e
theorem jq158 {n : Nat} {S : zS} (hn : n + 1 < 500) (h : jI n S) {a b c : Int32} (d : Int32) (h0 : 0 ≤ a.toInt) (hc : zx 216 c) : jI (n + 1) (B158 a b c d S) ∧ (jRef (A158 a b c d S) ∨ (zn 9999 (A158 a b c d S) ∧ A158 a b c d S = F110 c d (S 2 3) S)) ∧ (S 1 6 = 0 → A158 a b c d S = -2) := by
  obtain ⟨k, hJ, _, _⟩ := jadm h a b c 1
  refine ⟨?_, ?_, fun e => ?_⟩
  · exact (jreq (by omega) h (p := c) (q := 1) (F := F202 a c d (G196 a b c 1 S)) (G := G202 a c d (G196 a b c 1 S)) h0 hc (fun g1 g2 g3 g4 => by
      obtain ⟨m1, m2⟩ := jm202 g1 a c d (jtx h h0 g3) hc (by rw [k.1 5 rfl]; exact jt0 h0 g3)
      have kp := p_G202 a c d (G196 a b c 1 S)
      exact ⟨jJ_u (Nat.le_succ n) m1, by rw [kp.1 5 rfl, k.1 5 rfl], by rw [kp.1 40 rfl, k.1 40 rfl], kp.1 37 rfl, m2.1, m2.2.1, m2.2.2.1, m2.2.2.2⟩)).1
  · unfold A158
    rcases jrf h a b c 1 with ⟨e, _⟩ | ⟨e, e2⟩
    · rw [if_pos e]
      refine (jv202 (jJ_Sto hJ) a c d).imp id (fun e3 => ⟨e3.1, ?_⟩)
      rw [e3.2.2, F110_cg (k.1 51 rfl) (k.1 52 rfl) (k.1 53 rfl) (k.1 54 rfl), k.1 2 rfl]
    · rw [if_neg e]; exact Or.inl e2
  · unfold A158
    have := jsealed h a b c 1 e
    rw [if_neg (by rw [this]; decide), this]
/-- a value is written -/
theorem jq159 {n : Nat} {S : zS} (hn : n + 1 < 500) (h : jI n S) {a b c d : Int32} (e : Int32) (h0 : 0 ≤ a.toInt) (hc : zx 216 c) (hd : zn 9999 d) : jI (n + 1) (B159 a b c d e S) ∧ (S 1 6 = 0 → A159 a b c d e S = -2) ∧ ((jRef (A159 a b c d e S) ∧ zkp [19, 37, 40, 44, 46, 47, 49, 80] [] S (B159 a b c d e S)) ∨ (¬ S 1 6 = 0 ∧ (e = -1 ∨ e = S 51 c.toNatClampNeg) ∧ S 16 (c / 36).toNatClampNeg = 0 ∧ A159 a b c d e S = (S 51 c.toNatClampNeg) + 1 ∧ B159 a b c d e S 51 c.toNatClampNeg = (S 51 c.toNatClampNeg) + 1 ∧ B159 a b c d e S 54 ((c * 4) + (F323 ((S 51 c.toNatClampNeg) + 1) 4 S)).toNatClampNeg = 0 ∧ B159 a b c d e S 52 ((c * 4) + (F323 ((S 51 c.toNatClampNeg) + 1) 4 S)).toNatClampNeg = d ∧ B159 a b c d e S 53 ((c * 4) + (F323 ((S 51 c.toNatClampNeg) + 1) 4 S)).toNatClampNeg = B159 a b c d e S 2 0)) := by
  obtain ⟨k, hJ, _, _⟩ := jadm h a b c 2
  refine ⟨?_, fun e6 => ?_, ?_⟩
  · exact (jreq (by omega) h (p := c) (q := 2) (F := F203 c d e (G196 a b c 2 S)) (G := G203 c d e (G196 a b c 2 S)) h0 hc (fun g1 g2 g3 g4 => by
      obtain ⟨m1, m2⟩ := jm203 (by omega) g1 c d e hc hd
      have kp := p_G203 c d e (G196 a b c 2 S)
      exact ⟨m1, by rw [kp.1 5 rfl, k.1 5 rfl], by rw [kp.1 40 rfl, k.1 40 rfl], kp.1 37 rfl, m2.1, m2.2.1, m2.2.2.1, m2.2.2.2⟩)).1
  · unfold A159
    have := jsealed h a b c 2 e6
    rw [if_neg (by rw [this]; decide), this]
  · unfold A159 B159
    rcases jrf h a b c 2 with ⟨e1, e6, _⟩ | ⟨e1, e2⟩
    · simp only [if_pos e1]
      unfold F203 G203
      rw [k.1 16 rfl, k.1 51 rfl]
      by_cases c0 : S 16 (c / 36).toNatClampNeg = 0
      · rw [if_pos c0, if_pos c0]
        have hx := zx_iff.mp hc
        have hk := jk41 (by omega) (jJ_Key hJ) (G196 a b c 2 S 0 11)
        have kk := p_G41 (G196 a b c 2 S 0 11) (G196 a b c 2 S)
        have kl := p_G19 c 0 d (F41 (G196 a b c 2 S 0 11) (G196 a b c 2 S)) (G41 (G196 a b c 2 S 0 11) (G196 a b c 2 S))
        have x51 : G19 c 0 d (F41 (G196 a b c 2 S 0 11) (G196 a b c 2 S)) (G41 (G196 a b c 2 S 0 11) (G196 a b c 2 S)) 51 = S 51 := by rw [kl.1 51 rfl, kk.1 51 rfl, k.1 51 rfl]
        have x2 : G19 c 0 d (F41 (G196 a b c 2 S 0 11) (G196 a b c 2 S)) (G41 (G196 a b c 2 S 0 11) (G196 a b c 2 S)) 2 0 = G41 (G196 a b c 2 S 0 11) (G196 a b c 2 S) 2 0 := by rw [kl.1 2 rfl]
        rw [hk.2.1] at x51 x2 ⊢
        generalize hM : G19 c 0 d (G41 (G196 a b c 2 S 0 11) (G196 a b c 2 S) 2 0) (G41 (G196 a b c 2 S 0 11) (G196 a b c 2 S)) = M at x51 x2 ⊢
        rw [x51]
        generalize G41 (G196 a b c 2 S 0 11) (G196 a b c 2 S) 2 0 = kv at x2 ⊢
        have kv2 := p_G108 c d kv M
        have y2 : G108 c d kv M 2 0 = kv := by rw [kv2.1 2 rfl]; exact x2
        have y51 : G108 c d kv M 51 c.toNatClampNeg = (S 51 c.toNatClampNeg) + 1 := by simp only [G108, zup1, Nat.reduceEqDiff, reduceIte, upd_r]; rw [x51]
        have y52 : G108 c d kv M 52 ((c * 4) + (F323 ((S 51 c.toNatClampNeg) + 1) 4 S)).toNatClampNeg = d := by simp only [G108, zup1, Nat.reduceEqDiff, reduceIte, upd_r]; rw [x51]; exact if_pos rfl
        have y53 : G108 c d kv M 53 ((c * 4) + (F323 ((S 51 c.toNatClampNeg) + 1) 4 S)).toNatClampNeg = kv := by simp only [G108, zup1, Nat.reduceEqDiff, reduceIte, upd_r]; rw [x51]; exact if_pos rfl
        have y54 : G108 c d kv M 54 ((c * 4) + (F323 ((S 51 c.toNatClampNeg) + 1) 4 S)).toNatClampNeg = 0 := by simp only [G108, zup1, Nat.reduceEqDiff, reduceIte, upd_r]; rw [x51]; exact if_pos rfl
        have hall : ∀ v : Int32, G197 a c 2 v (G108 c d kv M) 51 c.toNatClampNeg = (S 51 c.toNatClampNeg) + 1 ∧ G197 a c 2 v (G108 c d kv M) 54 ((c * 4) + (F323 ((S 51 c.toNatClampNeg) + 1) 4 S)).toNatClampNeg = 0 ∧ G197 a c 2 v (G108 c d kv M) 52 ((c * 4) + (F323 ((S 51 c.toNatClampNeg) + 1) 4 S)).toNatClampNeg = d ∧ G197 a c 2 v (G108 c d kv M) 53 ((c * 4) + (F323 ((S 51 c.toNatClampNeg) + 1) 4 S)).toNatClampNeg = G197 a c 2 v (G108 c d kv M) 2 0 := fun v => by
          have kc := p_G197 a c 2 v (G108 c d kv M)
          rw [kc.1 51 rfl, kc.1 52 rfl, kc.1 53 rfl, kc.1 54 rfl, kc.1 2 rfl, y2]
          exact ⟨y51, y54, y52, y53⟩
        by_cases c1 : e = -1
        · simp only [if_pos c1]
          exact Or.inr ⟨e6, Or.inl c1, c0, trivial, hall _⟩
        · by_cases c2 : e = S 51 c.toNatClampNeg
          · simp only [if_neg c1, if_pos c2]
            exact Or.inr ⟨e6, Or.inr c2, c0, trivial, hall _⟩
          · simp only [if_neg c1, if_neg c2]
            exact Or.inl ⟨jRef_c (by decide), zkp_tr (zkp_tr zkp_S k rfl rfl) (p_G197 a c 2 _ _) rfl rfl⟩
      · rw [if_neg c0, if_neg c0]
        exact Or.inl ⟨jRef_c (by decide), zkp_tr (zkp_tr zkp_S k rfl rfl) (p_G197 a c 2 _ _) rfl rfl⟩
    · simp only [if_neg e1]
      exact Or.inl ⟨e2, zkp_tr (zkp_tr zkp_S k rfl rfl) (p_G197 a c 2 _ _) rfl rfl⟩
/-- a version is erased -/
theorem jq160 {n : Nat} {S : zS} (hn : n + 1 < 500) (h : jI n S) {a b c : Int32} (d : Int32) {e : Int32} (h0 : 0 ≤ a.toInt) (hc : zx 216 c) (he : zn 2 e) : jI (n + 1) (B160 a b c d e S) ∧ ((jRef (A160 a b c d e S) ∧ zkp [19, 37, 40, 44, 46, 47, 49, 80] [] S (B160 a b c d e S)) ∨ (¬ F107 c d S = -1 ∧ ¬ S 54 (F107 c d S).toNatClampNeg = 2 ∧ A160 a b c d e S = S 54 (F107 c d S).toNatClampNeg ∧ B160 a b c d e S 54 = upd (S 54) (F107 c d S).toNatClampNeg e ∧ B160 a b c d e S 51 = S 51 ∧ B160 a b c d e S 53 = S 53)) := by
  obtain ⟨k, hJ, _, _⟩ := jadm h a b c 4
  refine ⟨?_, ?_⟩
  · exact (jreq (by omega) h (p := c) (q := 4) (F := F204 c d e (G196 a b c 4 S)) (G := G204 c d e (G196 a b c 4 S)) h0 hc (fun g1 g2 g3 g4 => by
      obtain ⟨m1, m2⟩ := jm204 (by omega) g1 c d e hc he
      have kp := p_G204 c d e (G196 a b c 4 S)
      exact ⟨m1, by rw [kp.1 5 rfl, k.1 5 rfl], by rw [kp.1 40 rfl, k.1 40 rfl], kp.1 37 rfl, m2.1, m2.2.1, m2.2.2.1, m2.2.2.2⟩)).1
  · unfold A160 B160
    rcases jrf h a b c 4 with ⟨e1, e6, _⟩ | ⟨e1, e2⟩
    · simp only [if_pos e1]
      unfold F204 G204
      rw [k.1 16 rfl, F107_cg (k.1 51 rfl), k.1 54 rfl]
      generalize (if (d = 0) then ((G196 a b c 4 S 51 c.toNatClampNeg) : Int32) else d) = v
      generalize F107 c d S = q
      by_cases c0 : S 16 (c / 36).toNatClampNeg = 0
      · rw [if_pos c0, if_pos c0]
        by_cases c1 : q = -1
        · simp only [if_pos c1]
          exact Or.inl ⟨jRef_c (by decide), zkp_tr (zkp_tr zkp_S k rfl rfl) (p_G197 a c 4 _ _) rfl rfl⟩
        · by_cases c2 : S 54 q.toNatClampNeg = 2
          · simp only [if_neg c1, if_pos c2]
            exact Or.inl ⟨jRef_c (by decide), zkp_tr (zkp_tr zkp_S k rfl rfl) (p_G197 a c 4 _ _) rfl rfl⟩
          · simp only [if_neg c1, if_neg c2]
            have kl := p_G19 c v e 0 (G196 a b c 4 S)
            have y : ∀ w : Int32, G197 a c 4 w (if e = 2 then z_up (z_up (G19 c v e 0 (G196 a b c 4 S)) 54 q.toNatClampNeg e) 52 q.toNatClampNeg (-1) else z_up (G19 c v e 0 (G196 a b c 4 S)) 54 q.toNatClampNeg e) 54 = upd (S 54) q.toNatClampNeg e ∧ G197 a c 4 w (if e = 2 then z_up (z_up (G19 c v e 0 (G196 a b c 4 S)) 54 q.toNatClampNeg e) 52 q.toNatClampNeg (-1) else z_up (G19 c v e 0 (G196 a b c 4 S)) 54 q.toNatClampNeg e) 51 = S 51 ∧ G197 a c 4 w (if e = 2 then z_up (z_up (G19 c v e 0 (G196 a b c 4 S)) 54 q.toNatClampNeg e) 52 q.toNatClampNeg (-1) else z_up (G19 c v e 0 (G196 a b c 4 S)) 54 q.toNatClampNeg e) 53 = S 53 := fun w => by
              have kc := p_G197 a c 4 w (if e = 2 then z_up (z_up (G19 c v e 0 (G196 a b c 4 S)) 54 q.toNatClampNeg e) 52 q.toNatClampNeg (-1) else z_up (G19 c v e 0 (G196 a b c 4 S)) 54 q.toNatClampNeg e)
              rw [kc.1 54 rfl, kc.1 51 rfl, kc.1 53 rfl]
              split
              · simp only [zup1, Nat.reduceEqDiff, reduceIte]
                rw [kl.1 54 rfl, kl.1 51 rfl, kl.1 53 rfl, k.1 54 rfl, k.1 51 rfl, k.1 53 rfl]; exact ⟨rfl, rfl, rfl⟩
              · simp only [zup1, Nat.reduceEqDiff, reduceIte]
                rw [kl.1 54 rfl, kl.1 51 rfl, kl.1 53 rfl, k.1 54 rfl, k.1 51 rfl, k.1 53 rfl]; exact ⟨rfl, rfl, rfl⟩
            refine Or.inr ⟨c1, c2, ?_, y _⟩
            rw [kl.1 54 rfl, k.1 54 rfl]
      · rw [if_neg c0, if_neg c0]
        exact Or.inl ⟨jRef_c (by decide), zkp_tr (zkp_tr zkp_S k rfl rfl) (p_G197 a c 4 _ _) rfl rfl⟩
    · simp only [if_neg e1]
      exact Or.inl ⟨e2, zkp_tr (zkp_tr zkp_S k rfl rfl) (p_G197 a c 4 _ _) rfl rfl⟩
