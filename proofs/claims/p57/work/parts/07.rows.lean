/-! each instruction of the small machine, by a row of the kit -/
def z_Cx (l : Launch) (mi : Nat) (p : Program) (R : Room) (s : State) (m : MethodId) (args : Array Value) (c : Code) : Prop := p.tables.exec = Jvm.exec ∧ c.code = z_b mi ∧ c.maxLocals = z_ml mi ∧ s.vm.findClass (z_cls mi) = some m.cls ∧ (∀ w ∈ z_T, w.before args s = true) ∧ z_fr mi ≤ R.frames ∧ z_lo mi ≤ R.locals ∧ l.stackTraces = false
def z_Rl (dC : Nat → ClassId) (dI : Nat → Nat → Nat) (cI cZ cJ : ClassId) (q : Nat → Nat) (A : Nat → Prop) (X : Nat → Int32) (s : State) (mi : Nat) (cf : zCfg) (H : Heap) (locs : List Loc) (ls : Array Slot) : Prop := va_P (dC, dI) vwCl (z_W cI cZ cJ q cf.2.2.2) H ∧ cf.2.2.2 1000 = X ∧ va_S A s.heap H locs ∧ lv_has ls (z_ml mi) (z_al q cf.2.1) ∧ cf.2.1.length = z_ml mi
theorem z_inK {C : String} {T : u_T} {N : Nat} (is : List Nat) (h : (List.range N).all (fun k => z_w (is.getD k 0) (u_lay C T k)) = true) : ∀ w ∈ u_ws C T N, w ∈ z_T := fun w hw => by
  obtain ⟨k, hk, rfl⟩ := List.mem_map.mp hw
  exact z_w_in (List.all_eq_true.mp h k hk)
theorem z_in0 : ∀ w ∈ u_ws RX0 TX0 6, w ∈ z_T := z_inK [349, 351, 353, 355, 357, 359] (by decide +kernel)
theorem z_in1 : ∀ w ∈ u_ws RX1 TX1 4, w ∈ z_T := z_inK [102, 104, 106, 108] (by decide +kernel)
theorem z_in2 : ∀ w ∈ u_ws RX2 TX2 7, w ∈ z_T := z_inK [282, 284, 286, 288, 290, 292, 294] (by decide +kernel)
theorem z_in3 : ∀ w ∈ u_ws RX3 TX3 11, w ∈ z_T := z_inK [314, 316, 318, 320, 322, 324, 326, 328, 330, 332, 334] (by decide +kernel)
theorem z_in4 : ∀ w ∈ u_ws RX4 TX4 6, w ∈ z_T := z_inK [79, 81, 83, 85, 87, 89] (by decide +kernel)
theorem z_in5 : ∀ w ∈ u_ws RX5 TX5 11, w ∈ z_T := z_inK [209, 211, 213, 215, 217, 219, 221, 223, 225, 227, 229] (by decide +kernel)
theorem z_in6 : ∀ w ∈ u_ws RX6 TX6 10, w ∈ z_T := z_inK [127, 129, 131, 133, 135, 137, 139, 141, 143, 145] (by decide +kernel)
theorem z_in7 : ∀ w ∈ u_ws RX7 TX7 11, w ∈ z_T := z_inK [43, 45, 47, 49, 51, 53, 55, 57, 59, 61, 63] (by decide +kernel)
theorem z_in8 : ∀ w ∈ u_ws RX8 TX8 4, w ∈ z_T := z_inK [372, 374, 376, 378] (by decide +kernel)
theorem z_in9 : ∀ w ∈ u_ws RX9 TX9 4, w ∈ z_T := z_inK [258, 260, 262, 264] (by decide +kernel)
theorem z_in10 : ∀ w ∈ u_ws RX10 TX10 12, w ∈ z_T := z_inK [166, 168, 170, 172, 174, 176, 178, 180, 182, 184, 186, 188] (by decide +kernel)
theorem z_in11 : ∀ w ∈ u_ws RX11 TX11 12, w ∈ z_T := z_inK [393, 395, 397, 399, 401, 403, 405, 407, 409, 411, 413, 415] (by decide +kernel)
theorem z_inX : ∀ (ci : Nat) (r : vw_C), vwCl[ci]? = some r → ∀ w ∈ u_ws r.1 r.2.1 r.2.2, w ∈ z_T := by
  intro ci r h
  match ci, h with
  | 0, h => cases h; exact z_in0
  | 1, h => cases h; exact z_in1
  | 2, h => cases h; exact z_in2
  | 3, h => cases h; exact z_in3
  | 4, h => cases h; exact z_in4
  | 5, h => cases h; exact z_in5
  | 6, h => cases h; exact z_in6
  | 7, h => cases h; exact z_in7
  | 8, h => cases h; exact z_in8
  | 9, h => cases h; exact z_in9
  | 10, h => cases h; exact z_in10
  | 11, h => cases h; exact z_in11
  | n + 12, h => simp [vwCl] at h
def z_ty (ci : Nat) : Nat → FieldType := match ci with
  | 0 => tyX0
  | 1 => tyX1
  | 2 => tyX2
  | 3 => tyX3
  | 4 => tyX4
  | 5 => tyX5
  | 6 => tyX6
  | 7 => tyX7
  | 8 => tyX8
  | 9 => tyX9
  | 10 => tyX10
  | _ => tyX11
theorem z_tyok : ∀ (ci : Nat) (r : vw_C), vwCl[ci]? = some r → ∀ k, k < r.2.2 → parseFieldDescriptor (r.2.1 k).2.2.1 = some (z_ty ci k) := by
  intro ci r h
  match ci, h with
  | 0, h => cases h; exact tyX0_ok
  | 1, h => cases h; exact tyX1_ok
  | 2, h => cases h; exact tyX2_ok
  | 3, h => cases h; exact tyX3_ok
  | 4, h => cases h; exact tyX4_ok
  | 5, h => cases h; exact tyX5_ok
  | 6, h => cases h; exact tyX6_ok
  | 7, h => cases h; exact tyX7_ok
  | 8, h => cases h; exact tyX8_ok
  | 9, h => cases h; exact tyX9_ok
  | 10, h => cases h; exact tyX10_ok
  | 11, h => cases h; exact tyX11_ok
  | n + 12, h => simp [vwCl] at h
theorem z_nm : ∀ (ci : Nat) (r : vw_C), vwCl[ci]? = some r → ∀ a, a < r.2.2 → ∀ b, b < r.2.2 → a ≠ b → (r.2.1 a).2.1 ≠ (r.2.1 b).2.1 := by
  intro ci r h
  match ci, h with
  | 0, h => cases h; exact nmX0
  | 1, h => cases h; exact nmX1
  | 2, h => cases h; exact nmX2
  | 3, h => cases h; exact nmX3
  | 4, h => cases h; exact nmX4
  | 5, h => cases h; exact nmX5
  | 6, h => cases h; exact nmX6
  | 7, h => cases h; exact nmX7
  | 8, h => cases h; exact nmX8
  | 9, h => cases h; exact nmX9
  | 10, h => cases h; exact nmX10
  | 11, h => cases h; exact nmX11
  | n + 12, h => simp [vwCl] at h
/-- no cell is an array of longs -/
theorem z_no2 {j t n : Nat} (h : z_lay[j]? = some (.inl (t, n))) : ¬ t = 2 := fun e => by
  have k : z_lay.all (fun k => match k with | .inl (t, _) => !(t == 2) | _ => true) = true := by decide +kernel
  have := List.all_eq_true.mp k _ (List.mem_of_getElem? h)
  subst e
  exact Bool.false_ne_true this
theorem z_lay_ne {k : Nat} {x : zK} (h : z_lay[k]? = some x) : k ≠ 1000 := fun e => by subst e; cases h
theorem z_mathini : Cond.initialized "java/lang/Math" ∈ z_T := z_w_in (k := 19) (by decide +kernel)
theorem z_max_st : Cond.static Lib.Math.max.name ∈ z_T := z_w_in (k := 834) (by decide +kernel)
theorem z_min_st : Cond.static Lib.Math.min.name ∈ z_T := z_w_in (k := 975) (by decide +kernel)
theorem z_max_code : Cond.code Lib.Math.max.name Lib.Math.max.code 2 (some .int) ∈ z_T := z_w_in (k := 835) (by decide +kernel)
theorem z_min_code : Cond.code Lib.Math.min.name Lib.Math.min.code 2 (some .int) ∈ z_T := z_w_in (k := 976) (by decide +kernel)
section ZSND
variable {l : Launch} {dC : Nat → ClassId} {dI : Nat → Nat → Nat} {cI cZ cJ : ClassId} {q : Nat → Nat} {A : Nat → Prop} {L : Nat} {X : Nat → Int32}
variable {p : Program} {e : Env} {R : Room} {s : State} {m : MethodId} {args : Array Value} {below : List Frame} {meth : Method} {c : Code} {Q : State → Prop} {mi : Nat} {cells slots : Nat}
variable {pc : Nat} {lv : List (Option zV)} {st : List zV} {S : zS} {c2 : zCfg}

set_option maxHeartbeats 1000000 in
theorem z_s0 {a ix kw : Nat} {b : Int} (hC : z_Cx l mi p R s m args c) (hF : z_Fx dC dI cI cZ cJ q A L X s s.heap) (hA : z_Ap q A) (hok : z_okb mi pc (0, a, b, ix, kw) = true) (hs : z_ex L pc lv st S 0 a b = some (.inl c2)) (hsl : slots ≤ R.slots) (hce : cells ≤ R.cells)
    (kk : ∀ H locs ls, z_Rl dC dI cI cZ cJ q A X s mi c2 H locs ls → W p l e R s m args below meth c H locs cells slots Q (F0 m (z_pc mi c2.1) ls (c2.2.2.1.map (z_cv q)))) :
    ∀ H locs ls, z_Rl dC dI cI cZ cJ q A X s mi (pc, lv, st, S) H locs ls → W p l e R s m args below meth c H locs cells slots Q (F0 m (z_pc mi pc) ls (st.map (z_cv q))) := by
  intro H locs ls hR
  obtain ⟨hP, hX, hS, hl, hlen⟩ := hR
  dsimp only at hP hX hS hl hlen
  obtain ⟨hx, hb, hml, hown, hts, hfr, hlo, htr⟩ := hC
  simp only [z_okb, z_d, Bool.and_eq_true, Bool.or_eq_true, decide_eq_true_eq] at hok
  simp only [z_ex] at hs
  cases hs
  have h9 := kk H locs ls ⟨hP, hX, hS, hl, hlen⟩
  dsimp only at h9
  rcases hok with ((((⟨hd, hn⟩ | ⟨⟨hd, hn⟩, hv⟩) | ⟨⟨hd, hn⟩, hv⟩) | ⟨⟨hd, hn⟩, hv⟩) | ⟨⟨hd, hn⟩, hv⟩)
  · rw [hn] at h9
    exact lv_iconst hx hb hd rfl h9
  · rw [hn] at h9
    exact lv_bipush hx hb hd hv h9
  · rw [hn] at h9
    exact lv_sipush hx hb hd hv h9
  · rw [hn] at h9
    exact lv_ldc hx hb hown (hts _ (z_w_in hv)) hd h9
  · rw [hn] at h9
    exact lv_ldcw hx hb hown (hts _ (z_w_in hv)) hd h9
set_option maxHeartbeats 1000000 in
theorem z_s1 {a ix kw : Nat} {b : Int} (hC : z_Cx l mi p R s m args c) (hF : z_Fx dC dI cI cZ cJ q A L X s s.heap) (hA : z_Ap q A) (hok : z_okb mi pc (1, a, b, ix, kw) = true) (hs : z_ex L pc lv st S 1 a b = some (.inl c2)) (hsl : slots ≤ R.slots) (hce : cells ≤ R.cells)
    (kk : ∀ H locs ls, z_Rl dC dI cI cZ cJ q A X s mi c2 H locs ls → W p l e R s m args below meth c H locs cells slots Q (F0 m (z_pc mi c2.1) ls (c2.2.2.1.map (z_cv q)))) :
    ∀ H locs ls, z_Rl dC dI cI cZ cJ q A X s mi (pc, lv, st, S) H locs ls → W p l e R s m args below meth c H locs cells slots Q (F0 m (z_pc mi pc) ls (st.map (z_cv q))) := by
  intro H locs ls hR
  obtain ⟨hP, hX, hS, hl, hlen⟩ := hR
  dsimp only at hP hX hS hl hlen
  obtain ⟨hx, hb, hml, hown, hts, hfr, hlo, htr⟩ := hC
  simp only [z_okb, z_d, Bool.and_eq_true, Bool.or_eq_true, decide_eq_true_eq] at hok
  simp only [z_ex] at hs
  split at hs
  · next x hlv =>
    cases hs
    have h9 := kk H locs ls ⟨hP, hX, hS, hl, hlen⟩
    dsimp only at h9
    have hat := z_al_at hl hlv rfl
    rcases hok with ⟨⟨hd, hn⟩, hv⟩ | ⟨hd, hn⟩
    · rw [hn] at h9
      exact lv_iload_n hx hb hd (Nat.mod_eq_of_lt hv) hat h9
    · rw [hn] at h9
      exact lv_iload hx hb hd hat h9
  · cases hs
set_option maxHeartbeats 1000000 in
theorem z_s2 {a ix kw : Nat} {b : Int} (hC : z_Cx l mi p R s m args c) (hF : z_Fx dC dI cI cZ cJ q A L X s s.heap) (hA : z_Ap q A) (hok : z_okb mi pc (2, a, b, ix, kw) = true) (hs : z_ex L pc lv st S 2 a b = some (.inl c2)) (hsl : slots ≤ R.slots) (hce : cells ≤ R.cells)
    (kk : ∀ H locs ls, z_Rl dC dI cI cZ cJ q A X s mi c2 H locs ls → W p l e R s m args below meth c H locs cells slots Q (F0 m (z_pc mi c2.1) ls (c2.2.2.1.map (z_cv q)))) :
    ∀ H locs ls, z_Rl dC dI cI cZ cJ q A X s mi (pc, lv, st, S) H locs ls → W p l e R s m args below meth c H locs cells slots Q (F0 m (z_pc mi pc) ls (st.map (z_cv q))) := by
  intro H locs ls hR
  obtain ⟨hP, hX, hS, hl, hlen⟩ := hR
  dsimp only at hP hX hS hl hlen
  obtain ⟨hx, hb, hml, hown, hts, hfr, hlo, htr⟩ := hC
  simp only [z_okb, z_d, Bool.and_eq_true, Bool.or_eq_true, decide_eq_true_eq] at hok
  simp only [z_ex] at hs
  split at hs
  · next x hlv =>
    cases hs
    have h9 := kk H locs ls ⟨hP, hX, hS, hl, hlen⟩
    dsimp only at h9
    have hat := z_al_at hl hlv rfl
    rcases hok with ⟨⟨hd, hn⟩, hv⟩ | ⟨hd, hn⟩
    · rw [hn] at h9
      exact lv_aload_n hx hb hd (Nat.mod_eq_of_lt hv) hat h9
    · rw [hn] at h9
      exact lv_aload hx hb hd hat h9
  · cases hs
set_option maxHeartbeats 1000000 in
theorem z_s3 {a ix kw : Nat} {b : Int} (hC : z_Cx l mi p R s m args c) (hF : z_Fx dC dI cI cZ cJ q A L X s s.heap) (hA : z_Ap q A) (hok : z_okb mi pc (3, a, b, ix, kw) = true) (hs : z_ex L pc lv st S 3 a b = some (.inl c2)) (hsl : slots ≤ R.slots) (hce : cells ≤ R.cells)
    (kk : ∀ H locs ls, z_Rl dC dI cI cZ cJ q A X s mi c2 H locs ls → W p l e R s m args below meth c H locs cells slots Q (F0 m (z_pc mi c2.1) ls (c2.2.2.1.map (z_cv q)))) :
    ∀ H locs ls, z_Rl dC dI cI cZ cJ q A X s mi (pc, lv, st, S) H locs ls → W p l e R s m args below meth c H locs cells slots Q (F0 m (z_pc mi pc) ls (st.map (z_cv q))) := by
  intro H locs ls hR
  obtain ⟨hP, hX, hS, hl, hlen⟩ := hR
  dsimp only at hP hX hS hl hlen
  obtain ⟨hx, hb, hml, hown, hts, hfr, hlo, htr⟩ := hC
  simp only [z_okb, z_d, Bool.and_eq_true, Bool.or_eq_true, decide_eq_true_eq] at hok
  simp only [z_ex] at hs
  split at hs
  · next x r =>
    split at hs
    · next ha =>
      cases hs
      have k9 : ∀ ls' : Array Slot, lv_has ls' (z_ml mi) ((a, z_cv q (.inl x)) :: (z_al q lv).filter (fun x => !(x.1 == a) && !(x.1 + 1 == a && x.2.category == 2))) → z_pc mi (pc + 1) = z_pc mi (pc + 1) → W p l e R s m args below meth c H locs cells slots Q (F0 m (z_pc mi (pc + 1)) ls' (r.map (z_cv q))) := fun ls' h' _ => kk H locs ls' ⟨hP, hX, hS, z_al_set ha rfl h', by rw [List.length_set]; exact hlen⟩
      rcases hok with ⟨⟨hd, hn⟩, hv⟩ | ⟨hd, hn⟩
      · rw [hn] at k9
        exact lv_istore_n hx hb hd (Nat.mod_eq_of_lt hv) hl (hlen ▸ ha) rfl (fun ls' h' => k9 ls' h' rfl)
      · rw [hn] at k9
        exact lv_istore hx hb hd hl (hlen ▸ ha) rfl (fun ls' h' => k9 ls' h' rfl)
    · cases hs
  · cases hs
set_option maxHeartbeats 1000000 in
theorem z_s4 {a ix kw : Nat} {b : Int} (hC : z_Cx l mi p R s m args c) (hF : z_Fx dC dI cI cZ cJ q A L X s s.heap) (hA : z_Ap q A) (hok : z_okb mi pc (4, a, b, ix, kw) = true) (hs : z_ex L pc lv st S 4 a b = some (.inl c2)) (hsl : slots ≤ R.slots) (hce : cells ≤ R.cells)
    (kk : ∀ H locs ls, z_Rl dC dI cI cZ cJ q A X s mi c2 H locs ls → W p l e R s m args below meth c H locs cells slots Q (F0 m (z_pc mi c2.1) ls (c2.2.2.1.map (z_cv q)))) :
    ∀ H locs ls, z_Rl dC dI cI cZ cJ q A X s mi (pc, lv, st, S) H locs ls → W p l e R s m args below meth c H locs cells slots Q (F0 m (z_pc mi pc) ls (st.map (z_cv q))) := by
  intro H locs ls hR
  obtain ⟨hP, hX, hS, hl, hlen⟩ := hR
  dsimp only at hP hX hS hl hlen
  obtain ⟨hx, hb, hml, hown, hts, hfr, hlo, htr⟩ := hC
  simp only [z_okb, z_d, Bool.and_eq_true, Bool.or_eq_true, decide_eq_true_eq] at hok
  simp only [z_ex] at hs
  split at hs
  · next x r =>
    split at hs
    · next ha =>
      cases hs
      have k9 : ∀ ls' : Array Slot, lv_has ls' (z_ml mi) ((a, z_cv q (.inr (.inr x))) :: (z_al q lv).filter (fun x => !(x.1 == a) && !(x.1 + 1 == a && x.2.category == 2))) → z_pc mi (pc + 1) = z_pc mi (pc + 1) → W p l e R s m args below meth c H locs cells slots Q (F0 m (z_pc mi (pc + 1)) ls' (r.map (z_cv q))) := fun ls' h' _ => kk H locs ls' ⟨hP, hX, hS, z_al_set ha rfl h', by rw [List.length_set]; exact hlen⟩
      rcases hok with ⟨⟨hd, hn⟩, hv⟩ | ⟨hd, hn⟩
      · rw [hn] at k9
        exact lv_astore_n hx hb hd (Nat.mod_eq_of_lt hv) hl (hlen ▸ ha) rfl (fun ls' h' => k9 ls' h' rfl)
      · rw [hn] at k9
        exact lv_astore hx hb hd hl (hlen ▸ ha) rfl (fun ls' h' => k9 ls' h' rfl)
    · cases hs
  · cases hs
set_option maxHeartbeats 1000000 in
theorem z_s5 {a ix kw : Nat} {b : Int} (hC : z_Cx l mi p R s m args c) (hF : z_Fx dC dI cI cZ cJ q A L X s s.heap) (hA : z_Ap q A) (hok : z_okb mi pc (5, a, b, ix, kw) = true) (hs : z_ex L pc lv st S 5 a b = some (.inl c2)) (hsl : slots ≤ R.slots) (hce : cells ≤ R.cells)
    (kk : ∀ H locs ls, z_Rl dC dI cI cZ cJ q A X s mi c2 H locs ls → W p l e R s m args below meth c H locs cells slots Q (F0 m (z_pc mi c2.1) ls (c2.2.2.1.map (z_cv q)))) :
    ∀ H locs ls, z_Rl dC dI cI cZ cJ q A X s mi (pc, lv, st, S) H locs ls → W p l e R s m args below meth c H locs cells slots Q (F0 m (z_pc mi pc) ls (st.map (z_cv q))) := by
  intro H locs ls hR
  obtain ⟨hP, hX, hS, hl, hlen⟩ := hR
  dsimp only at hP hX hS hl hlen
  obtain ⟨hx, hb, hml, hown, hts, hfr, hlo, htr⟩ := hC
  simp only [z_okb, z_d, Bool.and_eq_true, Bool.or_eq_true, decide_eq_true_eq] at hok
  simp only [z_ex] at hs
  split at hs
  · next x hlv =>
    cases hs
    obtain ⟨hd, hn⟩ := hok
    have ha := (List.getElem?_eq_some_iff.mp hlv).1
    obtain ⟨k9, hk9⟩ := List.getElem?_of_mem (z_al_in (q := q) hlv rfl)
    refine lv_iinc hx hb hd hl (k := k9) (x := x) hk9 rfl (hlen ▸ ha) rfl (fun ls' h' => ?_)
    have h9 := kk H locs ls' ⟨hP, hX, hS, z_al_set (v := .inl (x + Int32.ofInt b)) ha rfl h', by rw [List.length_set]; exact hlen⟩
    dsimp only at h9
    rw [hn] at h9
    exact h9
  · cases hs
set_option maxHeartbeats 1000000 in
theorem z_s6 {a ix kw : Nat} {b : Int} (hC : z_Cx l mi p R s m args c) (hF : z_Fx dC dI cI cZ cJ q A L X s s.heap) (hA : z_Ap q A) (hok : z_okb mi pc (6, a, b, ix, kw) = true) (hs : z_ex L pc lv st S 6 a b = some (.inl c2)) (hsl : slots ≤ R.slots) (hce : cells ≤ R.cells)
    (kk : ∀ H locs ls, z_Rl dC dI cI cZ cJ q A X s mi c2 H locs ls → W p l e R s m args below meth c H locs cells slots Q (F0 m (z_pc mi c2.1) ls (c2.2.2.1.map (z_cv q)))) :
    ∀ H locs ls, z_Rl dC dI cI cZ cJ q A X s mi (pc, lv, st, S) H locs ls → W p l e R s m args below meth c H locs cells slots Q (F0 m (z_pc mi pc) ls (st.map (z_cv q))) := by
  intro H locs ls hR
  obtain ⟨hP, hX, hS, hl, hlen⟩ := hR
  dsimp only at hP hX hS hl hlen
  obtain ⟨hx, hb, hml, hown, hts, hfr, hlo, htr⟩ := hC
  simp only [z_okb, z_d, z_fld, Bool.and_eq_true, Bool.or_eq_true, decide_eq_true_eq] at hok
  simp only [z_ex] at hs
  split at hs
  · next k r =>
    split at hs
    · next ci fk hlay =>
      split at hs
      · next hci =>
        subst hci
        obtain ⟨⟨hd, hn⟩, hf⟩ := hok
        split at hf
        · next C T N hcl =>
          simp only [Bool.and_eq_true, decide_eq_true_eq] at hf
          split at hs
          · next hfk =>
            cases hs
            have h9 := kk H locs ls ⟨hP, hX, hS, hl, hlen⟩
            dsimp only at h9
            rw [hn] at h9
            exact va_get (D := (dC, dI)) hx hb hts (z_inX _ _ hcl) hown hF.1 hP k (z_W_at S hlay) hcl _ hf.2 (hts _ (z_w_in hf.1)) (fun _ h => h) (z_fs_int _ hfk) hd h9
          · next j hfk =>
            cases hs
            have h9 := kk H locs ls ⟨hP, hX, hS, hl, hlen⟩
            dsimp only at h9
            rw [hn] at h9
            exact va_get (D := (dC, dI)) hx hb hts (z_inX _ _ hcl) hown hF.1 hP k (z_W_at S hlay) hcl _ hf.2 (hts _ (z_w_in hf.1)) (fun _ h => h) (z_fs_ref _ hfk) hd h9
          · cases hs
        · cases hf
      · cases hs
    · cases hs
  · cases hs
set_option maxHeartbeats 1000000 in
theorem z_s7 {a ix kw : Nat} {b : Int} (hC : z_Cx l mi p R s m args c) (hF : z_Fx dC dI cI cZ cJ q A L X s s.heap) (hA : z_Ap q A) (hok : z_okb mi pc (7, a, b, ix, kw) = true) (hs : z_ex L pc lv st S 7 a b = some (.inl c2)) (hsl : slots ≤ R.slots) (hce : cells ≤ R.cells)
    (kk : ∀ H locs ls, z_Rl dC dI cI cZ cJ q A X s mi c2 H locs ls → W p l e R s m args below meth c H locs cells slots Q (F0 m (z_pc mi c2.1) ls (c2.2.2.1.map (z_cv q)))) :
    ∀ H locs ls, z_Rl dC dI cI cZ cJ q A X s mi (pc, lv, st, S) H locs ls → W p l e R s m args below meth c H locs cells slots Q (F0 m (z_pc mi pc) ls (st.map (z_cv q))) := by
  intro H locs ls hR
  obtain ⟨hP, hX, hS, hl, hlen⟩ := hR
  dsimp only at hP hX hS hl hlen
  obtain ⟨hx, hb, hml, hown, hts, hfr, hlo, htr⟩ := hC
  simp only [z_okb, z_d, z_fld, z_put, Bool.and_eq_true, Bool.or_eq_true, decide_eq_true_eq] at hok
  simp only [z_ex] at hs
  split at hs
  · next x k r =>
    split at hs
    · next ci fk hlay =>
      split at hs
      · next hci =>
        subst hci
        obtain ⟨⟨⟨hd, hn⟩, hf⟩, hpt⟩ := hok
        split at hf
        · next C T N hcl =>
          rw [hcl] at hpt
          simp only [Bool.and_eq_true, decide_eq_true_eq] at hf hpt
          split at hs
          · next hfk =>
            cases hs
            refine va_put (D := (dC, dI)) (ty := .int) (v := .int x) hx hb hts (z_inX _ _ hcl) (z_ty ci) (z_tyok _ _ hcl) (z_nm _ _ hcl) hown hF.1 hP (hA.D S) hS k (z_W_at S hlay) hcl _ hf.2 (hts _ (z_w_in hf.1)) (fun _ h => h) hpt.1 hpt.2 rfl rfl (by rw [z_fs_len]; exact (List.getElem?_eq_some_iff.mp hfk).1) hd (fun H1 locs1 hP1 hD1 hS1 => ?_)
            rw [z_fs_set _ hfk, z_W_set (S' := z_up S k b.toNat x) hlay (by rw [z_up_at]; rfl) (fun i hi => z_up_ne _ _ _ _ _ hi)] at hP1
            have h9 := kk H1 locs1 ls ⟨hP1, (z_up_ne _ _ _ _ _ (fun e => z_lay_ne hlay e.symm)).trans hX, hS1, hl, hlen⟩
            dsimp only at h9
            rw [hn] at h9
            exact h9
          · cases hs
        · cases hf
      · cases hs
    · cases hs
  · cases hs
set_option maxHeartbeats 1000000 in
theorem z_s33 {a ix kw : Nat} {b : Int} (hC : z_Cx l mi p R s m args c) (hF : z_Fx dC dI cI cZ cJ q A L X s s.heap) (hA : z_Ap q A) (hok : z_okb mi pc (33, a, b, ix, kw) = true) (hs : z_ex L pc lv st S 33 a b = some (.inl c2)) (hsl : slots ≤ R.slots) (hce : cells ≤ R.cells)
    (kk : ∀ H locs ls, z_Rl dC dI cI cZ cJ q A X s mi c2 H locs ls → W p l e R s m args below meth c H locs cells slots Q (F0 m (z_pc mi c2.1) ls (c2.2.2.1.map (z_cv q)))) :
    ∀ H locs ls, z_Rl dC dI cI cZ cJ q A X s mi (pc, lv, st, S) H locs ls → W p l e R s m args below meth c H locs cells slots Q (F0 m (z_pc mi pc) ls (st.map (z_cv q))) := by
  intro H locs ls hR
  obtain ⟨hP, hX, hS, hl, hlen⟩ := hR
  dsimp only at hP hX hS hl hlen
  obtain ⟨hx, hb, hml, hown, hts, hfr, hlo, htr⟩ := hC
  simp only [z_okb, z_d, z_fld, z_put, Bool.and_eq_true, Bool.or_eq_true, decide_eq_true_eq] at hok
  simp only [z_ex] at hs
  split at hs
  · next x k r =>
    split at hs
    · next ci fk hlay =>
      split at hs
      · next hci =>
        subst hci
        obtain ⟨⟨⟨hd, hn⟩, hf⟩, hpt⟩ := hok
        split at hf
        · next C T N hcl =>
          rw [hcl] at hpt
          simp only [Bool.and_eq_true, decide_eq_true_eq] at hf hpt
          split at hs
          · next hfk =>
            split at hs
            · next hz =>
              cases hs
              refine va_put (D := (dC, dI)) (ty := .boolean) (v := .int x) hx hb hts (z_inX _ _ hcl) (z_ty ci) (z_tyok _ _ hcl) (z_nm _ _ hcl) hown hF.1 hP (hA.D S) hS k (z_W_at S hlay) hcl _ hf.2 (hts _ (z_w_in hf.1)) (fun _ h => h) hpt.1 hpt.2 (by rcases hz with rfl | rfl <;> rfl) (by rcases hz with rfl | rfl <;> rfl) (by rw [z_fs_len]; exact (List.getElem?_eq_some_iff.mp hfk).1) hd (fun H1 locs1 hP1 hD1 hS1 => ?_)
              rw [z_fs_set _ hfk, z_W_set (S' := z_up S k b.toNat x) hlay (by rw [z_up_at]; rfl) (fun i hi => z_up_ne _ _ _ _ _ hi)] at hP1
              have h9 := kk H1 locs1 ls ⟨hP1, (z_up_ne _ _ _ _ _ (fun e => z_lay_ne hlay e.symm)).trans hX, hS1, hl, hlen⟩
              dsimp only at h9
              rw [hn] at h9
              exact h9
            · cases hs
          · cases hs
        · cases hf
      · cases hs
    · cases hs
  · cases hs
set_option maxHeartbeats 1000000 in
theorem z_s8 {a ix kw : Nat} {b : Int} (hC : z_Cx l mi p R s m args c) (hF : z_Fx dC dI cI cZ cJ q A L X s s.heap) (hA : z_Ap q A) (hok : z_okb mi pc (8, a, b, ix, kw) = true) (hs : z_ex L pc lv st S 8 a b = some (.inl c2)) (hsl : slots ≤ R.slots) (hce : cells ≤ R.cells)
    (kk : ∀ H locs ls, z_Rl dC dI cI cZ cJ q A X s mi c2 H locs ls → W p l e R s m args below meth c H locs cells slots Q (F0 m (z_pc mi c2.1) ls (c2.2.2.1.map (z_cv q)))) :
    ∀ H locs ls, z_Rl dC dI cI cZ cJ q A X s mi (pc, lv, st, S) H locs ls → W p l e R s m args below meth c H locs cells slots Q (F0 m (z_pc mi pc) ls (st.map (z_cv q))) := by
  intro H locs ls hR
  obtain ⟨hP, hX, hS, hl, hlen⟩ := hR
  dsimp only at hP hX hS hl hlen
  obtain ⟨hx, hb, hml, hown, hts, hfr, hlo, htr⟩ := hC
  simp only [z_okb, z_d, Bool.and_eq_true, Bool.or_eq_true, decide_eq_true_eq] at hok
  simp only [z_ex] at hs
  split at hs
  · next i k r =>
    split at hs
    · next hk =>
      subst hk
      split at hs
      · cases hs
      · next hin =>
        cases hs
        obtain ⟨hd, hn⟩ := hok
        have h9 := kk H locs ls ⟨hP, hX, hS, hl, hlen⟩
        dsimp only at h9
        rw [hn] at h9
        rw [hX] at h9
        exact va_sld hx hb hF.2.2.2.2.1 hF.2.2.2.2.2.1 hA.2.2 hS hin hd h9
    · split at hs
      · next t n hlay =>
        split at hs
        · next ht =>
          subst ht
          split at hs
          · cases hs
          · next hin =>
            cases hs
            obtain ⟨hd, hn⟩ := hok
            have h9 := kk H locs ls ⟨hP, hX, hS, hl, hlen⟩
            dsimp only at h9
            rw [hn] at h9
            exact va_iald (D := (dC, dI)) hx hb hF.1 hP k 0 (z_W_at S hlay) rfl hin hd h9
        · cases hs
      · cases hs
  · cases hs
set_option maxHeartbeats 1000000 in
theorem z_s9 {a ix kw : Nat} {b : Int} (hC : z_Cx l mi p R s m args c) (hF : z_Fx dC dI cI cZ cJ q A L X s s.heap) (hA : z_Ap q A) (hok : z_okb mi pc (9, a, b, ix, kw) = true) (hs : z_ex L pc lv st S 9 a b = some (.inl c2)) (hsl : slots ≤ R.slots) (hce : cells ≤ R.cells)
    (kk : ∀ H locs ls, z_Rl dC dI cI cZ cJ q A X s mi c2 H locs ls → W p l e R s m args below meth c H locs cells slots Q (F0 m (z_pc mi c2.1) ls (c2.2.2.1.map (z_cv q)))) :
    ∀ H locs ls, z_Rl dC dI cI cZ cJ q A X s mi (pc, lv, st, S) H locs ls → W p l e R s m args below meth c H locs cells slots Q (F0 m (z_pc mi pc) ls (st.map (z_cv q))) := by
  intro H locs ls hR
  obtain ⟨hP, hX, hS, hl, hlen⟩ := hR
  dsimp only at hP hX hS hl hlen
  obtain ⟨hx, hb, hml, hown, hts, hfr, hlo, htr⟩ := hC
  simp only [z_okb, z_d, Bool.and_eq_true, Bool.or_eq_true, decide_eq_true_eq] at hok
  simp only [z_ex] at hs
  split at hs
  · next i k r =>
    split at hs
    · next t n hlay =>
      split at hs
      · next ht =>
        subst ht
        split at hs
        · cases hs
        · next hin =>
          cases hs
          obtain ⟨hd, hn⟩ := hok
          have h9 := kk H locs ls ⟨hP, hX, hS, hl, hlen⟩
          dsimp only at h9
          rw [hn] at h9
          exact va_zald (D := (dC, dI)) hx hb hF.1 hP k 1 (z_W_at S hlay) rfl hin hd h9
      · cases hs
    · cases hs
  · cases hs
set_option maxHeartbeats 1000000 in
theorem z_s37 {a ix kw : Nat} {b : Int} (hC : z_Cx l mi p R s m args c) (hF : z_Fx dC dI cI cZ cJ q A L X s s.heap) (hA : z_Ap q A) (hok : z_okb mi pc (37, a, b, ix, kw) = true) (hs : z_ex L pc lv st S 37 a b = some (.inl c2)) (hsl : slots ≤ R.slots) (hce : cells ≤ R.cells)
    (kk : ∀ H locs ls, z_Rl dC dI cI cZ cJ q A X s mi c2 H locs ls → W p l e R s m args below meth c H locs cells slots Q (F0 m (z_pc mi c2.1) ls (c2.2.2.1.map (z_cv q)))) :
    ∀ H locs ls, z_Rl dC dI cI cZ cJ q A X s mi (pc, lv, st, S) H locs ls → W p l e R s m args below meth c H locs cells slots Q (F0 m (z_pc mi pc) ls (st.map (z_cv q))) := by
  intro H locs ls hR
  obtain ⟨hP, hX, hS, hl, hlen⟩ := hR
  dsimp only at hP hX hS hl hlen
  obtain ⟨hx, hb, hml, hown, hts, hfr, hlo, htr⟩ := hC
  simp only [z_okb, z_d, Bool.and_eq_true, Bool.or_eq_true, decide_eq_true_eq] at hok
  simp only [z_ex] at hs
  split at hs
  · next i k r =>
    split at hs
    · next t n hlay =>
      split at hs
      · next ht => exact absurd ht (z_no2 hlay)
      · cases hs
    · cases hs
  · cases hs
set_option maxHeartbeats 1000000 in
theorem z_s10 {a ix kw : Nat} {b : Int} (hC : z_Cx l mi p R s m args c) (hF : z_Fx dC dI cI cZ cJ q A L X s s.heap) (hA : z_Ap q A) (hok : z_okb mi pc (10, a, b, ix, kw) = true) (hs : z_ex L pc lv st S 10 a b = some (.inl c2)) (hsl : slots ≤ R.slots) (hce : cells ≤ R.cells)
    (kk : ∀ H locs ls, z_Rl dC dI cI cZ cJ q A X s mi c2 H locs ls → W p l e R s m args below meth c H locs cells slots Q (F0 m (z_pc mi c2.1) ls (c2.2.2.1.map (z_cv q)))) :
    ∀ H locs ls, z_Rl dC dI cI cZ cJ q A X s mi (pc, lv, st, S) H locs ls → W p l e R s m args below meth c H locs cells slots Q (F0 m (z_pc mi pc) ls (st.map (z_cv q))) := by
  intro H locs ls hR
  obtain ⟨hP, hX, hS, hl, hlen⟩ := hR
  dsimp only at hP hX hS hl hlen
  obtain ⟨hx, hb, hml, hown, hts, hfr, hlo, htr⟩ := hC
  simp only [z_okb, z_d, Bool.and_eq_true, Bool.or_eq_true, decide_eq_true_eq] at hok
  simp only [z_ex] at hs
  split at hs
  · next x i k r =>
    split at hs
    · next t n hlay =>
      split at hs
      · next ht =>
        subst ht
        split at hs
        · cases hs
        · next hin =>
          cases hs
          obtain ⟨hd, hn⟩ := hok
          refine va_iast (D := (dC, dI)) hx hb hF.1 hP (hA.D S) hS k 0 (z_W_at S hlay) rfl hin hd (fun H1 locs1 hP1 hD1 hS1 => ?_)
          rw [z_W_set (S' := z_up S k i.toNatClampNeg x) hlay (by rw [z_up_at]; rfl) (fun i hi => z_up_ne _ _ _ _ _ hi)] at hP1
          have h9 := kk H1 locs1 ls ⟨hP1, (z_up_ne _ _ _ _ _ (fun e => z_lay_ne hlay e.symm)).trans hX, hS1, hl, hlen⟩
          dsimp only at h9
          rw [hn] at h9
          exact h9
      · cases hs
    · cases hs
  · cases hs
set_option maxHeartbeats 1000000 in
theorem z_s11 {a ix kw : Nat} {b : Int} (hC : z_Cx l mi p R s m args c) (hF : z_Fx dC dI cI cZ cJ q A L X s s.heap) (hA : z_Ap q A) (hok : z_okb mi pc (11, a, b, ix, kw) = true) (hs : z_ex L pc lv st S 11 a b = some (.inl c2)) (hsl : slots ≤ R.slots) (hce : cells ≤ R.cells)
    (kk : ∀ H locs ls, z_Rl dC dI cI cZ cJ q A X s mi c2 H locs ls → W p l e R s m args below meth c H locs cells slots Q (F0 m (z_pc mi c2.1) ls (c2.2.2.1.map (z_cv q)))) :
    ∀ H locs ls, z_Rl dC dI cI cZ cJ q A X s mi (pc, lv, st, S) H locs ls → W p l e R s m args below meth c H locs cells slots Q (F0 m (z_pc mi pc) ls (st.map (z_cv q))) := by
  intro H locs ls hR
  obtain ⟨hP, hX, hS, hl, hlen⟩ := hR
  dsimp only at hP hX hS hl hlen
  obtain ⟨hx, hb, hml, hown, hts, hfr, hlo, htr⟩ := hC
  simp only [z_okb, z_d, Bool.and_eq_true, Bool.or_eq_true, decide_eq_true_eq] at hok
  simp only [z_ex] at hs
  split at hs
  · next x i k r =>
    split at hs
    · next t n hlay =>
      split at hs
      · next ht =>
        subst ht
        split at hs
        · cases hs
        · next hin =>
          split at hs
          · next hz =>
            cases hs
            obtain ⟨hd, hn⟩ := hok
            refine va_zast (D := (dC, dI)) hx hb hF.1 hP (hA.D S) hS k 1 (z_W_at S hlay) rfl hin hd (fun H1 locs1 hP1 hD1 hS1 => ?_)
            rw [z_W_set (S' := z_up S k i.toNatClampNeg x) hlay (by rw [z_up_at]; rcases hz with rfl | rfl <;> rfl) (fun i hi => z_up_ne _ _ _ _ _ hi)] at hP1
            have h9 := kk H1 locs1 ls ⟨hP1, (z_up_ne _ _ _ _ _ (fun e => z_lay_ne hlay e.symm)).trans hX, hS1, hl, hlen⟩
            dsimp only at h9
            rw [hn] at h9
            exact h9
          · cases hs
      · cases hs
    · cases hs
  · cases hs
set_option maxHeartbeats 1000000 in
theorem z_s31 {a ix kw : Nat} {b : Int} (hC : z_Cx l mi p R s m args c) (hF : z_Fx dC dI cI cZ cJ q A L X s s.heap) (hA : z_Ap q A) (hok : z_okb mi pc (31, a, b, ix, kw) = true) (hs : z_ex L pc lv st S 31 a b = some (.inl c2)) (hsl : slots ≤ R.slots) (hce : cells ≤ R.cells)
    (kk : ∀ H locs ls, z_Rl dC dI cI cZ cJ q A X s mi c2 H locs ls → W p l e R s m args below meth c H locs cells slots Q (F0 m (z_pc mi c2.1) ls (c2.2.2.1.map (z_cv q)))) :
    ∀ H locs ls, z_Rl dC dI cI cZ cJ q A X s mi (pc, lv, st, S) H locs ls → W p l e R s m args below meth c H locs cells slots Q (F0 m (z_pc mi pc) ls (st.map (z_cv q))) := by
  intro H locs ls hR
  obtain ⟨hP, hX, hS, hl, hlen⟩ := hR
  dsimp only at hP hX hS hl hlen
  obtain ⟨hx, hb, hml, hown, hts, hfr, hlo, htr⟩ := hC
  simp only [z_okb, z_d, Bool.and_eq_true, Bool.or_eq_true, decide_eq_true_eq] at hok
  simp only [z_ex] at hs
  split at hs
  · next x i k r =>
    split at hs
    · next t n hlay =>
      split at hs
      · next ht => exact absurd ht (z_no2 hlay)
      · cases hs
    · cases hs
  · cases hs
set_option maxHeartbeats 1000000 in
theorem z_s12 {a ix kw : Nat} {b : Int} (hC : z_Cx l mi p R s m args c) (hF : z_Fx dC dI cI cZ cJ q A L X s s.heap) (hA : z_Ap q A) (hok : z_okb mi pc (12, a, b, ix, kw) = true) (hs : z_ex L pc lv st S 12 a b = some (.inl c2)) (hsl : slots ≤ R.slots) (hce : cells ≤ R.cells)
    (kk : ∀ H locs ls, z_Rl dC dI cI cZ cJ q A X s mi c2 H locs ls → W p l e R s m args below meth c H locs cells slots Q (F0 m (z_pc mi c2.1) ls (c2.2.2.1.map (z_cv q)))) :
    ∀ H locs ls, z_Rl dC dI cI cZ cJ q A X s mi (pc, lv, st, S) H locs ls → W p l e R s m args below meth c H locs cells slots Q (F0 m (z_pc mi pc) ls (st.map (z_cv q))) := by
  intro H locs ls hR
  obtain ⟨hP, hX, hS, hl, hlen⟩ := hR
  dsimp only at hP hX hS hl hlen
  obtain ⟨hx, hb, hml, hown, hts, hfr, hlo, htr⟩ := hC
  simp only [z_okb, z_d, Bool.and_eq_true, Bool.or_eq_true, decide_eq_true_eq] at hok
  simp only [z_ex] at hs
  split at hs
  · next k r =>
    obtain ⟨hd, hn⟩ := hok
    split at hs
    · next hk =>
      subst hk
      cases hs
      have h9 := kk H locs ls ⟨hP, hX, hS, hl, hlen⟩
      dsimp only at h9
      rw [hn] at h9
      exact va_slen hx hb hF.2.2.2.2.1 hF.2.2.2.2.2.1 hA.2.2 hS hd h9
    · split at hs
      · next t n hlay =>
        cases hs
        have h9 := kk H locs ls ⟨hP, hX, hS, hl, hlen⟩
        dsimp only at h9
        rw [hn] at h9
        have hw := z_W_at (cI := cI) (cZ := cZ) (cJ := cJ) (q := q) S hlay
        dsimp only [z_el] at hw
        by_cases h2 : t = 2
        · rw [if_pos h2] at hw
          exact absurd h2 (z_no2 hlay)
        · rw [if_neg h2] at hw
          by_cases h0 : t = 0
          · rw [if_pos h0] at hw
            exact va_alen (D := (dC, dI)) hx hb hF.1 hP k 0 hw (ty := .int) rfl rfl hd h9
          · rw [if_neg h0] at hw
            exact va_alen (D := (dC, dI)) hx hb hF.1 hP k 1 hw (ty := .boolean) rfl rfl hd h9
      · cases hs
  · cases hs
set_option maxHeartbeats 1000000 in
theorem z_s13 {a ix kw : Nat} {b : Int} (hC : z_Cx l mi p R s m args c) (hF : z_Fx dC dI cI cZ cJ q A L X s s.heap) (hA : z_Ap q A) (hok : z_okb mi pc (13, a, b, ix, kw) = true) (hs : z_ex L pc lv st S 13 a b = some (.inl c2)) (hsl : slots ≤ R.slots) (hce : cells ≤ R.cells)
    (kk : ∀ H locs ls, z_Rl dC dI cI cZ cJ q A X s mi c2 H locs ls → W p l e R s m args below meth c H locs cells slots Q (F0 m (z_pc mi c2.1) ls (c2.2.2.1.map (z_cv q)))) :
    ∀ H locs ls, z_Rl dC dI cI cZ cJ q A X s mi (pc, lv, st, S) H locs ls → W p l e R s m args below meth c H locs cells slots Q (F0 m (z_pc mi pc) ls (st.map (z_cv q))) := by
  intro H locs ls hR
  obtain ⟨hP, hX, hS, hl, hlen⟩ := hR
  dsimp only at hP hX hS hl hlen
  obtain ⟨hx, hb, hml, hown, hts, hfr, hlo, htr⟩ := hC
  simp only [z_okb, z_d, Bool.and_eq_true, Bool.or_eq_true, decide_eq_true_eq] at hok
  simp only [z_ex] at hs
  split at hs
  · next y x r =>
    split at hs
    · next v hv =>
      cases hs
      obtain ⟨hd, hn⟩ := hok
      have h9 := kk H locs ls ⟨hP, hX, hS, hl, hlen⟩
      dsimp only at h9
      rw [hn] at h9
      match a, hv, hd with
      | 0, hv, hd => cases hv; exact lv_iadd hx hb hd h9
      | 1, hv, hd => cases hv; exact lv_isub hx hb hd h9
      | 2, hv, hd => cases hv; exact lv_imul hx hb hd h9
      | 3, hv, hd =>
        simp only [z_bin] at hv
        split at hv
        · cases hv
        · next hne => cases hv; exact lv_idiv hx hb hd hne h9
      | 4, hv, hd =>
        simp only [z_bin] at hv
        split at hv
        · cases hv
        · next hne => cases hv; exact lv_irem hx hb hd hne h9
      | 5, hv, hd => cases hv; exact lv_iand hx hb hd h9
      | 6, hv, hd => cases hv; exact lv_ior hx hb hd h9
      | 7, hv, hd => cases hv; exact lv_ixor hx hb hd h9
      | 8, hv, hd => cases hv; exact lv_ishl hx hb hd h9
      | 9, hv, hd => cases hv; exact lv_ishr hx hb hd h9
      | 10, hv, hd => cases hv; exact lv_iushr hx hb hd rfl h9
      | n + 11, hv, hd => cases hv
    · cases hs
  · cases hs
set_option maxHeartbeats 1000000 in
theorem z_s14 {a ix kw : Nat} {b : Int} (hC : z_Cx l mi p R s m args c) (hF : z_Fx dC dI cI cZ cJ q A L X s s.heap) (hA : z_Ap q A) (hok : z_okb mi pc (14, a, b, ix, kw) = true) (hs : z_ex L pc lv st S 14 a b = some (.inl c2)) (hsl : slots ≤ R.slots) (hce : cells ≤ R.cells)
    (kk : ∀ H locs ls, z_Rl dC dI cI cZ cJ q A X s mi c2 H locs ls → W p l e R s m args below meth c H locs cells slots Q (F0 m (z_pc mi c2.1) ls (c2.2.2.1.map (z_cv q)))) :
    ∀ H locs ls, z_Rl dC dI cI cZ cJ q A X s mi (pc, lv, st, S) H locs ls → W p l e R s m args below meth c H locs cells slots Q (F0 m (z_pc mi pc) ls (st.map (z_cv q))) := by
  intro H locs ls hR
  obtain ⟨hP, hX, hS, hl, hlen⟩ := hR
  dsimp only at hP hX hS hl hlen
  obtain ⟨hx, hb, hml, hown, hts, hfr, hlo, htr⟩ := hC
  simp only [z_okb, z_d, Bool.and_eq_true, Bool.or_eq_true, decide_eq_true_eq] at hok
  simp only [z_ex] at hs
  split at hs
  · next v r =>
    split at hs
    · next hv =>
      cases hs
      obtain ⟨hd, hn⟩ := hok
      have h9 := kk H locs ls ⟨hP, hX, hS, hl, hlen⟩
      dsimp only at h9
      rw [hn] at h9
      exact lv_dup hx hb hd (by rw [z_cv_cat]; exact hv) h9
    · cases hs
  · cases hs
set_option maxHeartbeats 1000000 in
theorem z_s15 {a ix kw : Nat} {b : Int} (hC : z_Cx l mi p R s m args c) (hF : z_Fx dC dI cI cZ cJ q A L X s s.heap) (hA : z_Ap q A) (hok : z_okb mi pc (15, a, b, ix, kw) = true) (hs : z_ex L pc lv st S 15 a b = some (.inl c2)) (hsl : slots ≤ R.slots) (hce : cells ≤ R.cells)
    (kk : ∀ H locs ls, z_Rl dC dI cI cZ cJ q A X s mi c2 H locs ls → W p l e R s m args below meth c H locs cells slots Q (F0 m (z_pc mi c2.1) ls (c2.2.2.1.map (z_cv q)))) :
    ∀ H locs ls, z_Rl dC dI cI cZ cJ q A X s mi (pc, lv, st, S) H locs ls → W p l e R s m args below meth c H locs cells slots Q (F0 m (z_pc mi pc) ls (st.map (z_cv q))) := by
  intro H locs ls hR
  obtain ⟨hP, hX, hS, hl, hlen⟩ := hR
  dsimp only at hP hX hS hl hlen
  obtain ⟨hx, hb, hml, hown, hts, hfr, hlo, htr⟩ := hC
  simp only [z_okb, z_d, Bool.and_eq_true, Bool.or_eq_true, decide_eq_true_eq] at hok
  simp only [z_ex] at hs
  split at hs
  · next v u r =>
    split at hs
    · next hv =>
      cases hs
      obtain ⟨hd, hn⟩ := hok
      have h9 := kk H locs ls ⟨hP, hX, hS, hl, hlen⟩
      dsimp only at h9
      rw [hn] at h9
      exact lv_dup2_11 hx hb hd (by rw [z_cv_cat]; exact hv.1) (by rw [z_cv_cat]; exact hv.2) h9
    · cases hs
  · cases hs
set_option maxHeartbeats 1000000 in
theorem z_s16 {a ix kw : Nat} {b : Int} (hC : z_Cx l mi p R s m args c) (hF : z_Fx dC dI cI cZ cJ q A L X s s.heap) (hA : z_Ap q A) (hok : z_okb mi pc (16, a, b, ix, kw) = true) (hs : z_ex L pc lv st S 16 a b = some (.inl c2)) (hsl : slots ≤ R.slots) (hce : cells ≤ R.cells)
    (kk : ∀ H locs ls, z_Rl dC dI cI cZ cJ q A X s mi c2 H locs ls → W p l e R s m args below meth c H locs cells slots Q (F0 m (z_pc mi c2.1) ls (c2.2.2.1.map (z_cv q)))) :
    ∀ H locs ls, z_Rl dC dI cI cZ cJ q A X s mi (pc, lv, st, S) H locs ls → W p l e R s m args below meth c H locs cells slots Q (F0 m (z_pc mi pc) ls (st.map (z_cv q))) := by
  intro H locs ls hR
  obtain ⟨hP, hX, hS, hl, hlen⟩ := hR
  dsimp only at hP hX hS hl hlen
  obtain ⟨hx, hb, hml, hown, hts, hfr, hlo, htr⟩ := hC
  simp only [z_okb, z_d, Bool.and_eq_true, Bool.or_eq_true, decide_eq_true_eq] at hok
  simp only [z_ex] at hs
  split at hs
  · next v r =>
    split at hs
    · next hv =>
      cases hs
      obtain ⟨hd, hn⟩ := hok
      have h9 := kk H locs ls ⟨hP, hX, hS, hl, hlen⟩
      dsimp only at h9
      rw [hn] at h9
      exact lv_pop hx hb hd (by rw [z_cv_cat]; exact hv) h9
    · cases hs
  · cases hs
set_option maxHeartbeats 1000000 in
theorem z_s17 {a ix kw : Nat} {b : Int} (hC : z_Cx l mi p R s m args c) (hF : z_Fx dC dI cI cZ cJ q A L X s s.heap) (hA : z_Ap q A) (hok : z_okb mi pc (17, a, b, ix, kw) = true) (hs : z_ex L pc lv st S 17 a b = some (.inl c2)) (hsl : slots ≤ R.slots) (hce : cells ≤ R.cells)
    (kk : ∀ H locs ls, z_Rl dC dI cI cZ cJ q A X s mi c2 H locs ls → W p l e R s m args below meth c H locs cells slots Q (F0 m (z_pc mi c2.1) ls (c2.2.2.1.map (z_cv q)))) :
    ∀ H locs ls, z_Rl dC dI cI cZ cJ q A X s mi (pc, lv, st, S) H locs ls → W p l e R s m args below meth c H locs cells slots Q (F0 m (z_pc mi pc) ls (st.map (z_cv q))) := by
  intro H locs ls hR
  obtain ⟨hP, hX, hS, hl, hlen⟩ := hR
  dsimp only at hP hX hS hl hlen
  obtain ⟨hx, hb, hml, hown, hts, hfr, hlo, htr⟩ := hC
  simp only [z_okb, z_d, Bool.and_eq_true, Bool.or_eq_true, decide_eq_true_eq] at hok
  simp only [z_ex] at hs
  cases hs
  split at hok
  · next off hd =>
    simp only [decide_eq_true_eq] at hok
    exact lv_goto hx hb hd hok (kk H locs ls ⟨hP, hX, hS, hl, hlen⟩)
  · cases hok
set_option maxHeartbeats 1000000 in
theorem z_s18 {a ix kw : Nat} {b : Int} (hC : z_Cx l mi p R s m args c) (hF : z_Fx dC dI cI cZ cJ q A L X s s.heap) (hA : z_Ap q A) (hok : z_okb mi pc (18, a, b, ix, kw) = true) (hs : z_ex L pc lv st S 18 a b = some (.inl c2)) (hsl : slots ≤ R.slots) (hce : cells ≤ R.cells)
    (kk : ∀ H locs ls, z_Rl dC dI cI cZ cJ q A X s mi c2 H locs ls → W p l e R s m args below meth c H locs cells slots Q (F0 m (z_pc mi c2.1) ls (c2.2.2.1.map (z_cv q)))) :
    ∀ H locs ls, z_Rl dC dI cI cZ cJ q A X s mi (pc, lv, st, S) H locs ls → W p l e R s m args below meth c H locs cells slots Q (F0 m (z_pc mi pc) ls (st.map (z_cv q))) := by
  intro H locs ls hR
  obtain ⟨hP, hX, hS, hl, hlen⟩ := hR
  dsimp only at hP hX hS hl hlen
  obtain ⟨hx, hb, hml, hown, hts, hfr, hlo, htr⟩ := hC
  simp only [z_okb, z_d, Bool.and_eq_true, Bool.or_eq_true, decide_eq_true_eq] at hok
  simp only [z_ex] at hs
  split at hs
  · next x r =>
    split at hok
    · next cd off hd =>
      simp only [Bool.and_eq_true, decide_eq_true_eq] at hok
      obtain ⟨⟨ht, hn⟩, hc⟩ := hok
      rw [← hc] at hs
      cases cd
      · simp only [z_ifk, z_br] at hs
        refine lv_if_eq hx hb hd ht (fun h => ?_) (fun h => ?_)
        · rw [if_pos h] at hs
          cases hs
          have h9 := kk H locs ls ⟨hP, hX, hS, hl, hlen⟩
          dsimp only at h9
          exact h9
        · rw [if_neg h] at hs
          cases hs
          have h9 := kk H locs ls ⟨hP, hX, hS, hl, hlen⟩
          dsimp only at h9
          rw [hn] at h9
          exact h9
      · simp only [z_ifk, z_br] at hs
        refine lv_if_ne hx hb hd ht (fun h => ?_) (fun h => ?_)
        · rw [if_neg h] at hs
          cases hs
          have h9 := kk H locs ls ⟨hP, hX, hS, hl, hlen⟩
          dsimp only at h9
          exact h9
        · rw [if_pos h] at hs
          cases hs
          have h9 := kk H locs ls ⟨hP, hX, hS, hl, hlen⟩
          dsimp only at h9
          rw [hn] at h9
          exact h9
      · simp only [z_ifk, z_br] at hs
        refine lv_if_lt hx hb hd ht (fun h => ?_) (fun h => ?_)
        · rw [if_pos h] at hs
          cases hs
          have h9 := kk H locs ls ⟨hP, hX, hS, hl, hlen⟩
          dsimp only at h9
          exact h9
        · rw [if_neg h] at hs
          cases hs
          have h9 := kk H locs ls ⟨hP, hX, hS, hl, hlen⟩
          dsimp only at h9
          rw [hn] at h9
          exact h9
      · simp only [z_ifk, z_br] at hs
        refine lv_if_ge hx hb hd ht (fun h => ?_) (fun h => ?_)
        · rw [if_pos h] at hs
          cases hs
          have h9 := kk H locs ls ⟨hP, hX, hS, hl, hlen⟩
          dsimp only at h9
          exact h9
        · rw [if_neg h] at hs
          cases hs
          have h9 := kk H locs ls ⟨hP, hX, hS, hl, hlen⟩
          dsimp only at h9
          rw [hn] at h9
          exact h9
      · simp only [z_ifk, z_br] at hs
        refine lv_if_gt hx hb hd ht (fun h => ?_) (fun h => ?_)
        · rw [if_pos h] at hs
          cases hs
          have h9 := kk H locs ls ⟨hP, hX, hS, hl, hlen⟩
          dsimp only at h9
          exact h9
        · rw [if_neg h] at hs
          cases hs
          have h9 := kk H locs ls ⟨hP, hX, hS, hl, hlen⟩
          dsimp only at h9
          rw [hn] at h9
          exact h9
      · simp only [z_ifk, z_br] at hs
        refine lv_if_le hx hb hd ht (fun h => ?_) (fun h => ?_)
        · rw [if_pos h] at hs
          cases hs
          have h9 := kk H locs ls ⟨hP, hX, hS, hl, hlen⟩
          dsimp only at h9
          exact h9
        · rw [if_neg h] at hs
          cases hs
          have h9 := kk H locs ls ⟨hP, hX, hS, hl, hlen⟩
          dsimp only at h9
          rw [hn] at h9
          exact h9
    · cases hok
  · cases hs
set_option maxHeartbeats 1000000 in
theorem z_s19 {a ix kw : Nat} {b : Int} (hC : z_Cx l mi p R s m args c) (hF : z_Fx dC dI cI cZ cJ q A L X s s.heap) (hA : z_Ap q A) (hok : z_okb mi pc (19, a, b, ix, kw) = true) (hs : z_ex L pc lv st S 19 a b = some (.inl c2)) (hsl : slots ≤ R.slots) (hce : cells ≤ R.cells)
    (kk : ∀ H locs ls, z_Rl dC dI cI cZ cJ q A X s mi c2 H locs ls → W p l e R s m args below meth c H locs cells slots Q (F0 m (z_pc mi c2.1) ls (c2.2.2.1.map (z_cv q)))) :
    ∀ H locs ls, z_Rl dC dI cI cZ cJ q A X s mi (pc, lv, st, S) H locs ls → W p l e R s m args below meth c H locs cells slots Q (F0 m (z_pc mi pc) ls (st.map (z_cv q))) := by
  intro H locs ls hR
  obtain ⟨hP, hX, hS, hl, hlen⟩ := hR
  dsimp only at hP hX hS hl hlen
  obtain ⟨hx, hb, hml, hown, hts, hfr, hlo, htr⟩ := hC
  simp only [z_okb, z_d, Bool.and_eq_true, Bool.or_eq_true, decide_eq_true_eq] at hok
  simp only [z_ex] at hs
  split at hs
  · next y x r =>
    split at hok
    · next cd off hd =>
      simp only [Bool.and_eq_true, decide_eq_true_eq] at hok
      obtain ⟨⟨ht, hn⟩, hc⟩ := hok
      rw [← hc] at hs
      cases cd
      · simp only [z_ifk, z_br] at hs
        refine lv_icmp_eq hx hb hd ht (fun h => ?_) (fun h => ?_)
        · rw [if_pos h] at hs
          cases hs
          have h9 := kk H locs ls ⟨hP, hX, hS, hl, hlen⟩
          dsimp only at h9
          exact h9
        · rw [if_neg h] at hs
          cases hs
          have h9 := kk H locs ls ⟨hP, hX, hS, hl, hlen⟩
          dsimp only at h9
          rw [hn] at h9
          exact h9
      · simp only [z_ifk, z_br] at hs
        refine lv_icmp_ne hx hb hd ht (fun h => ?_) (fun h => ?_)
        · rw [if_neg h] at hs
          cases hs
          have h9 := kk H locs ls ⟨hP, hX, hS, hl, hlen⟩
          dsimp only at h9
          exact h9
        · rw [if_pos h] at hs
          cases hs
          have h9 := kk H locs ls ⟨hP, hX, hS, hl, hlen⟩
          dsimp only at h9
          rw [hn] at h9
          exact h9
      · simp only [z_ifk, z_br] at hs
        refine lv_icmp_lt hx hb hd ht (fun h => ?_) (fun h => ?_)
        · rw [if_pos h] at hs
          cases hs
          have h9 := kk H locs ls ⟨hP, hX, hS, hl, hlen⟩
          dsimp only at h9
          exact h9
        · rw [if_neg h] at hs
          cases hs
          have h9 := kk H locs ls ⟨hP, hX, hS, hl, hlen⟩
          dsimp only at h9
          rw [hn] at h9
          exact h9
      · simp only [z_ifk, z_br] at hs
        refine lv_icmp_ge hx hb hd ht (fun h => ?_) (fun h => ?_)
        · rw [if_pos h] at hs
          cases hs
          have h9 := kk H locs ls ⟨hP, hX, hS, hl, hlen⟩
          dsimp only at h9
          exact h9
        · rw [if_neg h] at hs
          cases hs
          have h9 := kk H locs ls ⟨hP, hX, hS, hl, hlen⟩
          dsimp only at h9
          rw [hn] at h9
          exact h9
      · simp only [z_ifk, z_br] at hs
        refine lv_icmp_gt hx hb hd ht (fun h => ?_) (fun h => ?_)
        · rw [if_pos h] at hs
          cases hs
          have h9 := kk H locs ls ⟨hP, hX, hS, hl, hlen⟩
          dsimp only at h9
          exact h9
        · rw [if_neg h] at hs
          cases hs
          have h9 := kk H locs ls ⟨hP, hX, hS, hl, hlen⟩
          dsimp only at h9
          rw [hn] at h9
          exact h9
      · simp only [z_ifk, z_br] at hs
        refine lv_icmp_le hx hb hd ht (fun h => ?_) (fun h => ?_)
        · rw [if_pos h] at hs
          cases hs
          have h9 := kk H locs ls ⟨hP, hX, hS, hl, hlen⟩
          dsimp only at h9
          exact h9
        · rw [if_neg h] at hs
          cases hs
          have h9 := kk H locs ls ⟨hP, hX, hS, hl, hlen⟩
          dsimp only at h9
          rw [hn] at h9
          exact h9
    · cases hok
  · cases hs
set_option maxHeartbeats 1000000 in
theorem z_s23 {a ix kw : Nat} {b : Int} (hC : z_Cx l mi p R s m args c) (hF : z_Fx dC dI cI cZ cJ q A L X s s.heap) (hA : z_Ap q A) (hok : z_okb mi pc (23, a, b, ix, kw) = true) (hs : z_ex L pc lv st S 23 a b = some (.inl c2)) (hsl : slots ≤ R.slots) (hce : cells ≤ R.cells)
    (kk : ∀ H locs ls, z_Rl dC dI cI cZ cJ q A X s mi c2 H locs ls → W p l e R s m args below meth c H locs cells slots Q (F0 m (z_pc mi c2.1) ls (c2.2.2.1.map (z_cv q)))) :
    ∀ H locs ls, z_Rl dC dI cI cZ cJ q A X s mi (pc, lv, st, S) H locs ls → W p l e R s m args below meth c H locs cells slots Q (F0 m (z_pc mi pc) ls (st.map (z_cv q))) := by
  intro H locs ls hR
  obtain ⟨hP, hX, hS, hl, hlen⟩ := hR
  dsimp only at hP hX hS hl hlen
  obtain ⟨hx, hb, hml, hown, hts, hfr, hlo, htr⟩ := hC
  simp only [z_okb, z_d, Bool.and_eq_true, Bool.or_eq_true, decide_eq_true_eq] at hok
  simp only [z_ex] at hs
  split at hs
  · next y x r =>
    split at hs
    · next hr =>
      cases hs
      obtain ⟨⟨⟨⟨hd, hn⟩, hw⟩, h1⟩, h2⟩ := hok
      have h9 := kk H locs ls ⟨hP, hX, hS, hl, hlen⟩
      dsimp only at h9
      rw [hn] at h9
      exact va_mmax hx hb (by rw [hml]; exact hl.1.symm) hown (hts _ (z_w_in hw)) (hts _ z_max_st) (hts _ z_mathini) (hts _ z_max_code) (by omega) (by rw [z_cats_eq]; omega) hce hsl hd h9
    · cases hs
  · cases hs
set_option maxHeartbeats 1000000 in
theorem z_s24 {a ix kw : Nat} {b : Int} (hC : z_Cx l mi p R s m args c) (hF : z_Fx dC dI cI cZ cJ q A L X s s.heap) (hA : z_Ap q A) (hok : z_okb mi pc (24, a, b, ix, kw) = true) (hs : z_ex L pc lv st S 24 a b = some (.inl c2)) (hsl : slots ≤ R.slots) (hce : cells ≤ R.cells)
    (kk : ∀ H locs ls, z_Rl dC dI cI cZ cJ q A X s mi c2 H locs ls → W p l e R s m args below meth c H locs cells slots Q (F0 m (z_pc mi c2.1) ls (c2.2.2.1.map (z_cv q)))) :
    ∀ H locs ls, z_Rl dC dI cI cZ cJ q A X s mi (pc, lv, st, S) H locs ls → W p l e R s m args below meth c H locs cells slots Q (F0 m (z_pc mi pc) ls (st.map (z_cv q))) := by
  intro H locs ls hR
  obtain ⟨hP, hX, hS, hl, hlen⟩ := hR
  dsimp only at hP hX hS hl hlen
  obtain ⟨hx, hb, hml, hown, hts, hfr, hlo, htr⟩ := hC
  simp only [z_okb, z_d, Bool.and_eq_true, Bool.or_eq_true, decide_eq_true_eq] at hok
  simp only [z_ex] at hs
  split at hs
  · next y x r =>
    split at hs
    · next hr =>
      cases hs
      obtain ⟨⟨⟨⟨hd, hn⟩, hw⟩, h1⟩, h2⟩ := hok
      have h9 := kk H locs ls ⟨hP, hX, hS, hl, hlen⟩
      dsimp only at h9
      rw [hn] at h9
      exact va_mmin hx hb (by rw [hml]; exact hl.1.symm) hown (hts _ (z_w_in hw)) (hts _ z_min_st) (hts _ z_mathini) (hts _ z_min_code) (by omega) (by rw [z_cats_eq]; omega) hce hsl hd h9
    · cases hs
  · cases hs
set_option maxHeartbeats 1000000 in
theorem z_s30 {a ix kw : Nat} {b : Int} (hC : z_Cx l mi p R s m args c) (hF : z_Fx dC dI cI cZ cJ q A L X s s.heap) (hA : z_Ap q A) (hok : z_okb mi pc (30, a, b, ix, kw) = true) (hs : z_ex L pc lv st S 30 a b = some (.inl c2)) (hsl : slots ≤ R.slots) (hce : cells ≤ R.cells)
    (kk : ∀ H locs ls, z_Rl dC dI cI cZ cJ q A X s mi c2 H locs ls → W p l e R s m args below meth c H locs cells slots Q (F0 m (z_pc mi c2.1) ls (c2.2.2.1.map (z_cv q)))) :
    ∀ H locs ls, z_Rl dC dI cI cZ cJ q A X s mi (pc, lv, st, S) H locs ls → W p l e R s m args below meth c H locs cells slots Q (F0 m (z_pc mi pc) ls (st.map (z_cv q))) := by
  intro H locs ls hR
  obtain ⟨hP, hX, hS, hl, hlen⟩ := hR
  dsimp only at hP hX hS hl hlen
  obtain ⟨hx, hb, hml, hown, hts, hfr, hlo, htr⟩ := hC
  simp only [z_okb, z_d, Bool.and_eq_true, Bool.or_eq_true, decide_eq_true_eq] at hok
  simp only [z_ex] at hs
  split at hs
  · next x r =>
    cases hs
    obtain ⟨hd, hn⟩ := hok
    have h9 := kk H locs ls ⟨hP, hX, hS, hl, hlen⟩
    dsimp only at h9
    rw [hn] at h9
    exact lv_i2l hx hb hd rfl h9
  · cases hs
set_option maxHeartbeats 1000000 in
theorem z_s38 {a ix kw : Nat} {b : Int} (hC : z_Cx l mi p R s m args c) (hF : z_Fx dC dI cI cZ cJ q A L X s s.heap) (hA : z_Ap q A) (hok : z_okb mi pc (38, a, b, ix, kw) = true) (hs : z_ex L pc lv st S 38 a b = some (.inl c2)) (hsl : slots ≤ R.slots) (hce : cells ≤ R.cells)
    (kk : ∀ H locs ls, z_Rl dC dI cI cZ cJ q A X s mi c2 H locs ls → W p l e R s m args below meth c H locs cells slots Q (F0 m (z_pc mi c2.1) ls (c2.2.2.1.map (z_cv q)))) :
    ∀ H locs ls, z_Rl dC dI cI cZ cJ q A X s mi (pc, lv, st, S) H locs ls → W p l e R s m args below meth c H locs cells slots Q (F0 m (z_pc mi pc) ls (st.map (z_cv q))) := by
  intro H locs ls hR
  obtain ⟨hP, hX, hS, hl, hlen⟩ := hR
  dsimp only at hP hX hS hl hlen
  obtain ⟨hx, hb, hml, hown, hts, hfr, hlo, htr⟩ := hC
  simp only [z_okb, z_d, Bool.and_eq_true, Bool.or_eq_true, decide_eq_true_eq] at hok
  simp only [z_ex] at hs
  split at hs
  · next y x r =>
    cases hs
    obtain ⟨hd, hn⟩ := hok
    have h9 := kk H locs ls ⟨hP, hX, hS, hl, hlen⟩
    dsimp only at h9
    rw [hn] at h9
    exact W.lcmp hx hb hd h9
  · cases hs
set_option maxHeartbeats 1000000 in
theorem z_s39 {a ix kw : Nat} {b : Int} (hC : z_Cx l mi p R s m args c) (hF : z_Fx dC dI cI cZ cJ q A L X s s.heap) (hA : z_Ap q A) (hok : z_okb mi pc (39, a, b, ix, kw) = true) (hs : z_ex L pc lv st S 39 a b = some (.inl c2)) (hsl : slots ≤ R.slots) (hce : cells ≤ R.cells)
    (kk : ∀ H locs ls, z_Rl dC dI cI cZ cJ q A X s mi c2 H locs ls → W p l e R s m args below meth c H locs cells slots Q (F0 m (z_pc mi c2.1) ls (c2.2.2.1.map (z_cv q)))) :
    ∀ H locs ls, z_Rl dC dI cI cZ cJ q A X s mi (pc, lv, st, S) H locs ls → W p l e R s m args below meth c H locs cells slots Q (F0 m (z_pc mi pc) ls (st.map (z_cv q))) := by
  intro H locs ls hR
  obtain ⟨hP, hX, hS, hl, hlen⟩ := hR
  dsimp only at hP hX hS hl hlen
  obtain ⟨hx, hb, hml, hown, hts, hfr, hlo, htr⟩ := hC
  simp only [z_okb, z_d, Bool.and_eq_true, Bool.or_eq_true, decide_eq_true_eq] at hok
  simp only [z_ex] at hs
  cases hs
  have h9 := kk H locs ls ⟨hP, hX, hS, hl, hlen⟩
  dsimp only at h9
  rcases hok with ⟨⟨hd, hn⟩, rfl⟩ | ⟨⟨hd, hn⟩, rfl⟩
  · rw [hn] at h9
    exact lv_lconst hx hb hd rfl h9
  · rw [hn] at h9
    exact lv_lconst hx hb hd rfl h9
end ZSND
