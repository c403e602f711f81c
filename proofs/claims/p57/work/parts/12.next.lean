/-! rows ahead: calls, answers and throws are no next places -/
theorem z_nx21 {L pc a : Nat} {b : Int} {lv : List (Option zV)} {st : List zV} {S : zS} {c2 : zCfg} (hs : z_ex L pc lv st S 21 a b = some (.inl c2)) : False := by
  simp only [z_ex, z_call] at hs
  repeat' split at hs
  all_goals (first | (cases hs; done) | (simp at hs; done))
theorem z_nx22 {L pc a : Nat} {b : Int} {lv : List (Option zV)} {st : List zV} {S : zS} {c2 : zCfg} (hs : z_ex L pc lv st S 22 a b = some (.inl c2)) : False := by
  simp only [z_ex, z_call] at hs
  repeat' split at hs
  all_goals (first | (cases hs; done) | (simp at hs; done))
theorem z_nx25 {L pc a : Nat} {b : Int} {lv : List (Option zV)} {st : List zV} {S : zS} {c2 : zCfg} (hs : z_ex L pc lv st S 25 a b = some (.inl c2)) : False := by
  simp only [z_ex, z_call] at hs
  repeat' split at hs
  all_goals (first | (cases hs; done) | (simp at hs; done))
theorem z_nx26 {L pc a : Nat} {b : Int} {lv : List (Option zV)} {st : List zV} {S : zS} {c2 : zCfg} (hs : z_ex L pc lv st S 26 a b = some (.inl c2)) : False := by
  simp only [z_ex, z_call] at hs
  repeat' split at hs
  all_goals (first | (cases hs; done) | (simp at hs; done))
theorem z_nx27 {L pc a : Nat} {b : Int} {lv : List (Option zV)} {st : List zV} {S : zS} {c2 : zCfg} (hs : z_ex L pc lv st S 27 a b = some (.inl c2)) : False := by
  simp only [z_ex, z_call] at hs
  repeat' split at hs
  all_goals (first | (cases hs; done) | (simp at hs; done))
theorem z_nx28 {L pc a : Nat} {b : Int} {lv : List (Option zV)} {st : List zV} {S : zS} {c2 : zCfg} (hs : z_ex L pc lv st S 28 a b = some (.inl c2)) : False := by
  simp only [z_ex, z_call] at hs
  repeat' split at hs
  all_goals (first | (cases hs; done) | (simp at hs; done))
theorem z_nx29 {L pc a : Nat} {b : Int} {lv : List (Option zV)} {st : List zV} {S : zS} {c2 : zCfg} (hs : z_ex L pc lv st S 29 a b = some (.inl c2)) : False := by
  simp only [z_ex, z_call] at hs
  repeat' split at hs
  all_goals (first | (cases hs; done) | (simp at hs; done))
theorem z_nx32 {L pc a : Nat} {b : Int} {lv : List (Option zV)} {st : List zV} {S : zS} {c2 : zCfg} (hs : z_ex L pc lv st S 32 a b = some (.inl c2)) : False := by
  simp only [z_ex, z_call] at hs
  repeat' split at hs
  all_goals (first | (cases hs; done) | (simp at hs; done))
theorem z_nx35 {L pc a : Nat} {b : Int} {lv : List (Option zV)} {st : List zV} {S : zS} {c2 : zCfg} (hs : z_ex L pc lv st S 35 a b = some (.inl c2)) : False := by
  simp only [z_ex, z_call] at hs
  repeat' split at hs
  all_goals (first | (cases hs; done) | (simp at hs; done))
section ZSW
variable {l : Launch} {dC : Nat → ClassId} {dI : Nat → Nat → Nat} {cI cZ cJ : ClassId} {q : Nat → Nat} {A : Nat → Prop} {L : Nat} {X : Nat → Int32}
variable {p : Program} {e : Env} {R : Room} {s : State} {m : MethodId} {args : Array Value} {below : List Frame} {meth : Method} {c : Code} {Q : State → Prop} {mi : Nat} {cells slots : Nat}
variable {pc : Nat} {lv : List (Option zV)} {st : List zV} {S : zS} {c2 : zCfg}
theorem z_sel_at {f : Nat → Option zO} {x : Int32} {d : Nat} {r : Option zO} : ∀ {ps : List (Int × Nat)}, z_sel ps d x f = r → (∃ (pre : List (Int × Nat)) (t : Nat) (suf : List (Int × Nat)), ps = pre ++ (x.toInt, t) :: suf ∧ (∀ y ∈ pre, x.toInt ≠ y.1) ∧ f t = r) ∨ ((∀ y ∈ ps, x.toInt ≠ y.1) ∧ f d = r)
  | [], h => Or.inr ⟨fun _ h => absurd h List.not_mem_nil, h⟩
  | y :: ps, h => by
    unfold z_sel at h
    split at h
    · next he => exact Or.inl ⟨[], y.2, ps, by rw [he]; rfl, fun _ h => absurd h List.not_mem_nil, h⟩
    · next he =>
      rcases z_sel_at h with ⟨pre, t, suf, e1, e2, e3⟩ | ⟨e1, e2⟩
      · exact Or.inl ⟨y :: pre, t, suf, by rw [e1]; rfl, fun z hz => (List.mem_cons.mp hz).elim (fun e => by rw [e]; exact he) (e2 z), e3⟩
      · exact Or.inr ⟨fun z hz => (List.mem_cons.mp hz).elim (fun e => by rw [e]; exact he) (e1 z), e2⟩
theorem z_off_skip {x d : Int} : ∀ (pre : List (Int × Int)) {suf : List (Int × Int)}, (∀ y ∈ pre, x ≠ y.1) → Op.lookupswitch.offset (pre ++ suf) d x = Op.lookupswitch.offset suf d x
  | [], suf, _ => rfl
  | y :: pre, suf, h => by
    rw [List.cons_append, Op.lookupswitch.offset_cons, if_neg (fun e => h y List.mem_cons_self e.symm)]
    exact z_off_skip pre (fun z hz => h z (List.mem_cons_of_mem _ hz))
set_option maxHeartbeats 1000000 in
theorem z_s20 {a ix kw : Nat} {b : Int} (hC : z_Cx l mi p R s m args c) (hF : z_Fx dC dI cI cZ cJ q A L X s s.heap) (hA : z_Ap q A) (hok : z_okb mi pc (20, a, b, ix, kw) = true) (hs : z_ex L pc lv st S 20 a b = some (.inl c2)) (hsl : slots ≤ R.slots) (hce : cells ≤ R.cells)
    (kk : ∀ H locs ls, z_Rl dC dI cI cZ cJ q A X s mi c2 H locs ls → W p l e R s m args below meth c H locs cells slots Q (F0 m (z_pc mi c2.1) ls (c2.2.2.1.map (z_cv q)))) :
    ∀ H locs ls, z_Rl dC dI cI cZ cJ q A X s mi (pc, lv, st, S) H locs ls → W p l e R s m args below meth c H locs cells slots Q (F0 m (z_pc mi pc) ls (st.map (z_cv q))) := by
  intro H locs ls hR
  obtain ⟨hP, hX, hS, hl, hlen⟩ := hR
  dsimp only at hP hX hS hl hlen
  obtain ⟨hx, hb, hml, hown, hts, hfr, hlo, htr⟩ := hC
  simp only [z_ex] at hs
  split at hs
  · next x r =>
    simp only [z_okb] at hok
    split at hok
    · next d ps len hd =>
      simp only [Bool.and_eq_true, decide_eq_true_eq] at hok
      obtain ⟨⟨hsort, hdf⟩, hps⟩ := hok
      rcases z_sel_at hs with ⟨pre, t, suf, e1, e2, e3⟩ | ⟨e1, e3⟩
      · cases e3
        rw [e1, List.map_append, List.map_cons] at hps
        obtain ⟨p1, p2, f1, f2, f3⟩ := List.map_eq_append_iff.mp hps
        obtain ⟨y, p3, g1, g2, g3⟩ := List.map_eq_cons_iff.mp f3
        have hy : y.1 = x.toInt ∧ (z_pc mi pc : Int) + y.2 = (z_pc mi t : Int) := by simpa using g2
        have hskip : ∀ z ∈ p1, x.toInt ≠ z.1 := by
          intro z hz he
          have hm : (z.1, (z_pc mi pc : Int) + z.2) ∈ pre.map (fun p => (p.1, (z_pc mi p.2 : Int))) := by rw [← f2]; exact List.mem_map.mpr ⟨z, hz, rfl⟩
          obtain ⟨w, hw, hw2⟩ := List.mem_map.mp hm
          exact e2 w hw (he.trans (Prod.ext_iff.mp hw2).1.symm)
        have hoff : Op.lookupswitch.offset ps.toList d x.toInt = y.2 := by
          rw [f1, z_off_skip p1 hskip, g1, Op.lookupswitch.offset_cons, if_pos hy.1]
        exact lv_lookup hx hb hd hsort hoff hy.2 (kk H locs ls ⟨hP, hX, hS, hl, hlen⟩)
      · cases e3
        have hskip : ∀ z ∈ ps.toList, x.toInt ≠ z.1 := by
          intro z hz he
          have hm : (z.1, (z_pc mi pc : Int) + z.2) ∈ (z_sw.getD a (0, [])).2.map (fun p => (p.1, (z_pc mi p.2 : Int))) := by rw [← hps]; exact List.mem_map.mpr ⟨z, hz, rfl⟩
          obtain ⟨w, hw, hw2⟩ := List.mem_map.mp hm
          exact e1 w hw (he.trans (Prod.ext_iff.mp hw2).1.symm)
        have hoff : Op.lookupswitch.offset ps.toList d x.toInt = d := by
          have := z_off_skip (d := d) ps.toList (suf := []) hskip
          rw [List.append_nil] at this
          rw [this]; rfl
        exact lv_lookup hx hb hd hsort hoff hdf (kk H locs ls ⟨hP, hX, hS, hl, hlen⟩)
    · cases hok
  · cases hs
set_option maxHeartbeats 1000000 in
theorem z_s36 {a ix kw : Nat} {b : Int} (hC : z_Cx l mi p R s m args c) (hF : z_Fx dC dI cI cZ cJ q A L X s s.heap) (hA : z_Ap q A) (hok : z_okb mi pc (36, a, b, ix, kw) = true) (hs : z_ex L pc lv st S 36 a b = some (.inl c2)) (hsl : slots ≤ R.slots) (hce : cells ≤ R.cells)
    (kk : ∀ H locs ls, z_Rl dC dI cI cZ cJ q A X s mi c2 H locs ls → W p l e R s m args below meth c H locs cells slots Q (F0 m (z_pc mi c2.1) ls (c2.2.2.1.map (z_cv q)))) :
    ∀ H locs ls, z_Rl dC dI cI cZ cJ q A X s mi (pc, lv, st, S) H locs ls → W p l e R s m args below meth c H locs cells slots Q (F0 m (z_pc mi pc) ls (st.map (z_cv q))) := by
  intro H locs ls hR
  obtain ⟨hP, hX, hS, hl, hlen⟩ := hR
  dsimp only at hP hX hS hl hlen
  obtain ⟨hx, hb, hml, hown, hts, hfr, hlo, htr⟩ := hC
  simp only [z_ex] at hs
  split at hs
  · next x r =>
    simp only [z_okb] at hok
    split at hok
    · next d lo hi offs len hd =>
      simp only [Bool.and_eq_true, decide_eq_true_eq] at hok
      obtain ⟨⟨⟨hdf, hlo0⟩, hhi⟩, hps⟩ := hok
      subst hlo0
      rcases z_sel_at hs with ⟨pre, t, suf, e1, e2, e3⟩ | ⟨e1, e3⟩
      · cases e3
        have hm : (x.toInt, (z_pc mi t : Int)) ∈ (List.range offs.size).map (fun (j : Nat) => ((j : Int), (z_pc mi pc : Int) + offs.getD j 0)) := by
          rw [hps, e1]; simp
        obtain ⟨j, hj, hj2⟩ := List.mem_map.mp hm
        have hj9 := List.mem_range.mp hj
        have hj3 : (j : Int) = x.toInt ∧ (z_pc mi pc : Int) + offs.getD j 0 = (z_pc mi t : Int) := by simpa using hj2
        refine lv_tableIn hx hb hd (by omega) (by omega) (off := offs.getD j 0) ?_ hj3.2 (kk H locs ls ⟨hP, hX, hS, hl, hlen⟩)
        have hjj : (x.toInt - 0).toNat = j := by omega
        rw [hjj]
        simp [Array.getD, hj9]
      · cases e3
        refine lv_tableOut hx hb hd ?_ hdf (kk H locs ls ⟨hP, hX, hS, hl, hlen⟩)
        rcases Int.lt_or_le x.toInt 0 with h | h
        · exact Or.inl h
        · refine Or.inr ?_
          rcases Int.lt_or_le hi x.toInt with h2 | h2
          · exact h2
          · exfalso
            have hj9 : x.toInt.toNat < offs.size := by omega
            have hm : ((x.toInt.toNat : Int), (z_pc mi pc : Int) + offs.getD x.toInt.toNat 0) ∈ (z_sw.getD a (0, [])).2.map (fun p => (p.1, (z_pc mi p.2 : Int))) := by
              rw [← hps]; exact List.mem_map.mpr ⟨x.toInt.toNat, List.mem_range.mpr hj9, rfl⟩
            obtain ⟨w, hw, hw2⟩ := List.mem_map.mp hm
            have := (Prod.ext_iff.mp hw2).1
            dsimp only at this
            exact e1 w hw (by omega)
    · cases hok
  · cases hs
end ZSW
/-! the small machine is right of the machine: by induction on the steps -/
section ZSF
variable {l : Launch} {dC : Nat → ClassId} {dI : Nat → Nat → Nat} {cI cZ cJ : ClassId} {q : Nat → Nat} {A : Nat → Prop} {L : Nat} {X : Nat → Int32}
variable {p : Program} {e : Env} {R : Room} {s : State} {m : MethodId} {args : Array Value} {below : List Frame} {meth : Method} {c : Code} {Q : State → Prop} {mi : Nat} {cells slots : Nat}
variable {pc : Nat} {lv : List (Option zV)} {st : List zV} {S : zS} {c2 : zCfg}
/-- what is asked of the tables -/
def z_Good : Prop := (∀ (mi i : Nat) (x : zI), z_ins mi i = some x → x.1 = 99 ∨ z_okb mi i x = true) ∧ (∀ a, a < 338 → z_mok a = true ∧ z_pc a 0 = 0)
set_option maxHeartbeats 1000000 in
theorem z_first (hG : z_Good) (hA : z_Ap q A) (htr : l.stackTraces = false) (x : Int32) (S : zS) : Met l (z_y 195) (z_ws 195) (z_rm 195 0) (z_Pc dC dI cI cZ cJ q A L X [.inl x] S) (z_Qc dC dI cI cZ cJ q A X (some (.inl (x / 36))) S) 0 (6 * 0) A := by
  refine z_toMet (n := 0) ?_ htr hA (hG.2 _ (by decide)).1 rfl (show 1 ≤ z_ml 195 by decide +kernel) (hG.2 _ (by decide)).2
  intro p e R s m args below meth c Q C0 S0 cells slots hC hF htab hc1 hc2 hs1 hs2 hE H locs ls hR
  have ok : ∀ i x, z_ins 195 i = some x → x.1 ≠ 99 → z_okb 195 i x = true := fun i x h h9 => (hG.1 _ _ _ h).resolve_left h9
  have hcc : cells + 0 ≤ C0 := hc1
  have hss : slots + 6 * 0 ≤ S0 := hs1
  refine z_s1 hC hF hA (ok 0 (1, 0, 0, 0, 0) rfl (by decide)) (lv := z_ent 195 [.inl x]) (st := []) (S := S) (c2 := (1, z_ent 195 [.inl x], [.inl x], S)) rfl (by omega) (by omega) ?_ H locs ls hR
  refine z_s0 hC hF hA (ok 1 (0, 0, 36, 0, 0) rfl (by decide)) (L := L) (c2 := (2, z_ent 195 [.inl x], [.inl 36, .inl x], S)) rfl (by omega) (by omega) ?_
  refine z_s13 hC hF hA (ok 2 (13, 3, 0, 0, 0) rfl (by decide)) (L := L) (c2 := (3, z_ent 195 [.inl x], [.inl (x / 36)], S)) rfl (by omega) (by omega) ?_
  intro H locs ls hR
  have hok := ok 3 (25, 0, 0, 0, 0) rfl (by decide)
  simp only [z_okb, Bool.and_eq_true, decide_eq_true_eq] at hok
  exact hE _ ls H locs cells slots ⟨hok.1, Or.inl hok.2⟩ hR.1 hR.2.1 hR.2.2.1 (by omega) (by omega)
set_option maxHeartbeats 1000000 in
theorem z_s34 {a ix kw : Nat} {b : Int} (hG : z_Good) (hC : z_Cx l mi p R s m args c) (hF : z_Fx dC dI cI cZ cJ q A L X s s.heap) (hA : z_Ap q A) (hok : z_okb mi pc (34, a, b, ix, kw) = true) (hs : z_ex L pc lv st S 34 a b = some (.inl c2)) (hsl : slots ≤ R.slots) (hce : cells ≤ R.cells)
    (kk : ∀ H locs ls, z_Rl dC dI cI cZ cJ q A X s mi c2 H locs ls → W p l e R s m args below meth c H locs cells slots Q (F0 m (z_pc mi c2.1) ls (c2.2.2.1.map (z_cv q)))) :
    ∀ H locs ls, z_Rl dC dI cI cZ cJ q A X s mi (pc, lv, st, S) H locs ls → W p l e R s m args below meth c H locs cells slots Q (F0 m (z_pc mi pc) ls (st.map (z_cv q))) := by
  intro H locs ls hR
  obtain ⟨hP, hX, hS, hl, hlen⟩ := hR
  dsimp only at hP hX hS hl hlen
  simp only [z_okb, z_d, Bool.and_eq_true, decide_eq_true_eq] at hok
  obtain ⟨⟨⟨⟨⟨⟨⟨⟨⟨hd, hn⟩, ha⟩, hy⟩, hy2⟩, hcal⟩, hst⟩, hth⟩, htb⟩, htba⟩ := hok
  subst ha
  simp only [z_ex] at hs
  split at hs
  · next x r =>
    split at hs
    · next hr =>
      cases hs
      have hM := z_first (dC := dC) (dI := dI) (cI := cI) (cZ := cZ) (cJ := cJ) (L := L) (X := X) hG hA hC.2.2.2.2.2.2.2 x S
      have hrun := z_cN (ix := 0) (e := e) (meth := meth) (below := below) (as := [.inl x]) (rest := r) (ls := ls) (pc := z_pc mi pc) (cells := cells) (slots := slots) hC hF hA hd hy hy2 hcal (hG.2 _ (by decide)).1 htba hst (show 1 = z_na 195 by decide +kernel) hr hM hP hX hS hl (by omega) (by omega)
      refine z_back hrun hS (fun H1 locs1 hP1 hX1 hS1 => ?_)
      have h9 := kk H1 locs1 ls ⟨hP1, hX1, hS1, hl, hlen⟩
      dsimp only at h9
      rw [hn] at h9
      exact h9
    · cases hs
  · cases hs

set_option maxHeartbeats 2000000 in
theorem z_next {x : zI} (hG : z_Good) (hC : z_Cx l mi p R s m args c) (hF : z_Fx dC dI cI cZ cJ q A L X s s.heap) (hA : z_Ap q A) (hok : z_okb mi pc x = true) (hs : z_ex L pc lv st S x.1 x.2.1 x.2.2.1 = some (.inl c2)) (hsl : slots ≤ R.slots) (hce : cells ≤ R.cells)
    (kk : ∀ H locs ls, z_Rl dC dI cI cZ cJ q A X s mi c2 H locs ls → W p l e R s m args below meth c H locs cells slots Q (F0 m (z_pc mi c2.1) ls (c2.2.2.1.map (z_cv q)))) :
    ∀ H locs ls, z_Rl dC dI cI cZ cJ q A X s mi (pc, lv, st, S) H locs ls → W p l e R s m args below meth c H locs cells slots Q (F0 m (z_pc mi pc) ls (st.map (z_cv q))) := by
  obtain ⟨op, a, b, ix, kw⟩ := x
  dsimp only at hs
  match op, hok, hs with
  | 0, hok, hs => exact z_s0 hC hF hA hok hs hsl hce kk
  | 1, hok, hs => exact z_s1 hC hF hA hok hs hsl hce kk
  | 2, hok, hs => exact z_s2 hC hF hA hok hs hsl hce kk
  | 3, hok, hs => exact z_s3 hC hF hA hok hs hsl hce kk
  | 4, hok, hs => exact z_s4 hC hF hA hok hs hsl hce kk
  | 5, hok, hs => exact z_s5 hC hF hA hok hs hsl hce kk
  | 6, hok, hs => exact z_s6 hC hF hA hok hs hsl hce kk
  | 7, hok, hs => exact z_s7 hC hF hA hok hs hsl hce kk
  | 8, hok, hs => exact z_s8 hC hF hA hok hs hsl hce kk
  | 9, hok, hs => exact z_s9 hC hF hA hok hs hsl hce kk
  | 10, hok, hs => exact z_s10 hC hF hA hok hs hsl hce kk
  | 11, hok, hs => exact z_s11 hC hF hA hok hs hsl hce kk
  | 12, hok, hs => exact z_s12 hC hF hA hok hs hsl hce kk
  | 13, hok, hs => exact z_s13 hC hF hA hok hs hsl hce kk
  | 14, hok, hs => exact z_s14 hC hF hA hok hs hsl hce kk
  | 15, hok, hs => exact z_s15 hC hF hA hok hs hsl hce kk
  | 16, hok, hs => exact z_s16 hC hF hA hok hs hsl hce kk
  | 17, hok, hs => exact z_s17 hC hF hA hok hs hsl hce kk
  | 18, hok, hs => exact z_s18 hC hF hA hok hs hsl hce kk
  | 19, hok, hs => exact z_s19 hC hF hA hok hs hsl hce kk
  | 20, hok, hs => exact z_s20 hC hF hA hok hs hsl hce kk
  | 21, hok, hs => exact (z_nx21 hs).elim
  | 22, hok, hs => exact (z_nx22 hs).elim
  | 23, hok, hs => exact z_s23 hC hF hA hok hs hsl hce kk
  | 24, hok, hs => exact z_s24 hC hF hA hok hs hsl hce kk
  | 25, hok, hs => exact (z_nx25 hs).elim
  | 26, hok, hs => exact (z_nx26 hs).elim
  | 27, hok, hs => exact (z_nx27 hs).elim
  | 28, hok, hs => exact (z_nx28 hs).elim
  | 29, hok, hs => exact (z_nx29 hs).elim
  | 30, hok, hs => exact z_s30 hC hF hA hok hs hsl hce kk
  | 31, hok, hs => exact z_s31 hC hF hA hok hs hsl hce kk
  | 32, hok, hs => exact (z_nx32 hs).elim
  | 33, hok, hs => exact z_s33 hC hF hA hok hs hsl hce kk
  | 34, hok, hs => exact z_s34 hG hC hF hA hok hs hsl hce kk
  | 35, hok, hs => exact (z_nx35 hs).elim
  | 36, hok, hs => exact z_s36 hC hF hA hok hs hsl hce kk
  | 37, hok, hs => exact z_s37 hC hF hA hok hs hsl hce kk
  | 38, hok, hs => exact z_s38 hC hF hA hok hs hsl hce kk
  | 39, hok, hs => exact z_s39 hC hF hA hok hs hsl hce kk
  | n + 40, hok, hs => cases hok
end ZSF
