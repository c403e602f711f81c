/-! the small machine tells what the machine does -/
def z_isret (mi pcb : Nat) (r : Option zV) : Prop := match r with
  | none => decode (z_b mi) pcb = .ok (.return_, 1) ∧ z_rt mi = none
  | some (.inl x) => decode (z_b mi) pcb = .ok (.ireturn, 1) ∧ (z_rt mi = some .int ∨ (z_rt mi = some .boolean ∧ (x = 0 ∨ x = 1)))
  | some (.inr (.inr _)) => decode (z_b mi) pcb = .ok (.areturn, 1) ∧ ∃ n, z_rt mi = some (.object n)
  | some (.inr (.inl _)) => False
section ZSO
variable {l : Launch} {dC : Nat → ClassId} {dI : Nat → Nat → Nat} {cI cZ cJ : ClassId} {q : Nat → Nat} {A : Nat → Prop} {L : Nat} {X : Nat → Int32}
variable {p : Program} {e : Env} {R : Room} {s : State} {m : MethodId} {args : Array Value} {below : List Frame} {meth : Method} {c : Code} {Q : State → Prop} {mi : Nat} {cells slots : Nat}
def z_End (dC : Nat → ClassId) (dI : Nat → Nat → Nat) (cI cZ cJ : ClassId) (q : Nat → Nat) (A : Nat → Prop) (X : Nat → Int32) (p : Program) (l : Launch) (e : Env) (R : Room) (s : State) (m : MethodId) (args : Array Value) (below : List Frame) (meth : Method) (c : Code) (Q : State → Prop) (mi C0 S0 : Nat) (o : zRes) : Prop := match o.1 with
  | .inl r => ∀ (pcb : Nat) (ls : Array Slot) (H : Heap) (locs : List Loc) (c9 s9 : Nat), z_isret mi pcb r → va_P (dC, dI) vwCl (z_W cI cZ cJ q o.2.1) H → o.2.1 1000 = X → va_S A s.heap H locs → c9 ≤ C0 → s9 ≤ S0 → W p l e R s m args below meth c H locs c9 s9 Q (F0 m pcb ls (r.map (z_cv q)).toList)
  | .inr E => (z_tb mi).isEmpty = true → (∀ (pcb : Nat) (ls : Array Slot) (rest : List Value) (H : Heap) (locs : List Loc) (c9 s9 : Nat) (q9 : Addr) (ce : Cell), va_P (dC, dI) vwCl (z_W cI cZ cJ q o.2.1) H → o.2.1 1000 = X → va_S A s.heap H locs → H[q9]? = some ce → ce.vm = .none → s.vm.findClass (z_exn E) = some ce.cls → c9 ≤ C0 → s9 ≤ S0 → vx_W p l e R s m args below meth c H locs c9 s9 Q (F0 m pcb ls rest) q9) ∧
      (∀ (i ix kw : Nat) (v : Int) (ls : Array Slot) (H : Heap) (locs : List Loc) (c9 s9 : Nat), z_okb mi i (29, E, v, ix, kw) = true → va_P (dC, dI) vwCl (z_W cI cZ cJ q o.2.1) H → o.2.1 1000 = X → va_S A s.heap H locs → ls.size = z_ml mi → c9 + 1 ≤ C0 → s9 + 6 ≤ S0 → W p l e R s m args below meth c H locs c9 s9 Q (F0 m (z_pc mi i) ls []))
def z_BC (l : Launch) (dC : Nat → ClassId) (dI : Nat → Nat → Nat) (cI cZ cJ : ClassId) (q : Nat → Nat) (A : Nat → Prop) (L : Nat) (X : Nat → Int32) (mi : Nat) (cf : zCfg) (o : zRes) : Prop := ∀ (p : Program) (e : Env) (R : Room) (s : State) (m : MethodId) (args : Array Value) (below : List Frame) (meth : Method) (c : Code) (Q : State → Prop) (C0 S0 cells slots : Nat), z_Cx l mi p R s m args c → z_Fx dC dI cI cZ cJ q A L X s s.heap → (¬ (z_tb mi).isEmpty = true → c.exceptionTable.toList = tableOf (z_tb mi)) → cells + o.2.2 ≤ C0 → C0 ≤ R.cells → slots + 6 * o.2.2 ≤ S0 → S0 ≤ R.slots → z_End dC dI cI cZ cJ q A X p l e R s m args below meth c Q mi C0 S0 o → ∀ H locs ls, z_Rl dC dI cI cZ cJ q A X s mi cf H locs ls → W p l e R s m args below meth c H locs cells slots Q (F0 m (z_pc mi cf.1) ls (cf.2.2.1.map (z_cv q)))
set_option maxHeartbeats 1000000 in
/-- a method's contract out of its body, for an answer -/
theorem z_toMet {k n : Nat} {as : List zV} {S S2 : zS} {r : Option zV} (h : z_BC l dC dI cI cZ cJ q A L X k (0, z_ent k as, [], S) (.inl r, S2, n)) (htr : l.stackTraces = false) (hA : z_Ap q A) (hmok : z_mok k = true) (has : as.all (fun v => z_cat v == 1) = true) (hlen : as.length ≤ z_ml k) (hpc : z_pc k 0 = 0) :
    Met l (z_y k) (z_ws k) (z_rm k n) (z_Pc dC dI cI cZ cJ q A L X as S) (z_Qc dC dI cI cZ cJ q A X r S2) n (6 * n) A := by
  obtain ⟨m1, m2, m3, m4, m5, m6, m7, m8, m9⟩ := z_mok_un hmok
  have key : ∀ p e s m args below meth c s₁, BodyLoose p l (z_y k) (headSpec (z_ws k) (z_rm k n)) (z_b k) (z_ml k) (z_rt k) e s m args below meth c s₁ → c.maxLocals = z_ml k → (¬ (z_tb k).isEmpty = true → c.exceptionTable.toList = tableOf (z_tb k)) → z_Pc dC dI cI cZ cJ q A L X as S args s →
      W p l e (headSpec (z_ws k) (z_rm k n)).room s m args below meth c s.heap [] 0 0 (MQ below (z_Qc dC dI cI cZ cJ q A X r S2) args s n (6 * n) A) (entryFrame m args (z_ml k)) := by
    intro p e s m args below meth c s₁ B hml htab hv
    obtain ⟨rfl, hFx, hP, hX⟩ := hv
    have hCx : z_Cx l k p (z_rm k n) s m (as.map (z_cv q)).toArray c := ⟨B.exec, B.bytes, hml, findClass_of_methodNamed B.named, fun w hw => atoms_spec (ws := z_ws k) B.pre w (List.mem_cons_of_mem _ hw), Nat.le_refl _, Nat.le_refl _, htr⟩
    rw [lg_entry_eq]
    have hE : z_End dC dI cI cZ cJ q A X p l e (z_rm k n) s m (as.map (z_cv q)).toArray below meth c (MQ below (z_Qc dC dI cI cZ cJ q A X r S2) (as.map (z_cv q)).toArray s n (6 * n) A) k n (6 * n) (.inl r, S2, n) := by
      intro pcb ls H locs c9 s9 hret hP2 hX2 hS2 hc9 hs9
      refine W.widen hc9 hs9 ?_
      have hq : ∀ t : State, t.heap = H → s.WarmedH t.vm → z_Qc dC dI cI cZ cJ q A X r S2 (as.map (z_cv q)).toArray s (.returned (r.map (z_cv q))) t := fun t ht hW => ⟨⟨rfl, by rw [ht]; exact hP2, hX2⟩, hS2.F ht⟩
      rcases r with _ | x | x | x
      · exact W.vret B.exec B.bytes (B.returns.trans hret.2) hq hS2.2.2 hret.1 B.notSynchronized
      · rcases hret.2 with h1 | ⟨h1, h2⟩
        · exact W.iret B.exec B.bytes (B.returns.trans h1) hq hS2.2.2 hret.1 B.notSynchronized
        · exact W.zret B.exec B.bytes (B.returns.trans h1) (by rcases h2 with rfl | rfl <;> rfl) hq hS2.2.2 hret.1 B.notSynchronized
      · exact hret.elim
      · obtain ⟨nm, h1⟩ := hret.2
        exact W.aret B.exec B.bytes (B.returns.trans h1) (Or.inl ⟨nm, rfl⟩) (Or.inr ⟨_, rfl⟩) hq hS2.2.2 hret.1 B.notSynchronized
    have h9 := h p e (z_rm k n) s m (as.map (z_cv q)).toArray below meth c _ n (6 * n) 0 0 hCx hFx htab (by show 0 + n ≤ n; omega) (Nat.le_refl _) (by show 0 + 6 * n ≤ 6 * n; omega) (Nat.le_refl _) hE s.heap [] _ ⟨hP, hX, va_S.rf, z_entry (q := q) has hlen, z_ent_len hlen⟩
    dsimp only at h9
    rw [hpc] at h9
    exact h9
  by_cases hb : (z_tb k).isEmpty = true
  · exact z_ofW (cc := z_b k) (maxL := z_ml k) (ret := z_rt k) m5 (z_ws_code hb) (fun p e s m args below meth c s₁ B hml hv => key p e s m args below meth c s₁ B hml (fun h => absurd hb h) hv)
  · exact z_ofWH (cc := z_b k) (maxL := z_ml k) (ret := z_rt k) (hh := z_tb k) m5 (z_ws_with hb) (fun p e s m args below meth c s₁ B hml hv => key p e s m args below meth c s₁ B hml (fun _ => vx_table (x := z_y k) B (atoms_spec (ws := z_ws k) B.pre _ (by rw [z_ws_with hb]; exact List.mem_cons_self))) hv)
set_option maxHeartbeats 1000000 in
/-- the same, for a throw -/
theorem z_toMetX {k n E : Nat} {as : List zV} {S S2 : zS} (hE3 : E < 3) (h : z_BC l dC dI cI cZ cJ q A L X k (0, z_ent k as, [], S) (.inr E, S2, n)) (htr : l.stackTraces = false) (hA : z_Ap q A) (hmok : z_mok k = true) (has : as.all (fun v => z_cat v == 1) = true) (hlen : as.length ≤ z_ml k) (hpc : z_pc k 0 = 0) :
    vx_Met l (z_y k) (z_ws k) (z_rm k n) (z_Pc dC dI cI cZ cJ q A L X as S) (fun _ _ _ _ => False) (z_Xc dC dI cI cZ cJ q A X E S2) n (6 * n) A := by
  obtain ⟨m1, m2, m3, m4, m5, m6, m7, m8, m9⟩ := z_mok_un hmok
  have key : ∀ p e s m args below meth c s₁, BodyLoose p l (z_y k) (headSpec (z_ws k) (z_rm k n)) (z_b k) (z_ml k) (z_rt k) e s m args below meth c s₁ → c.maxLocals = z_ml k → ((z_tb k).isEmpty = true → ∀ x ∈ c.exceptionTable.toList, False) → (¬ (z_tb k).isEmpty = true → c.exceptionTable.toList = tableOf (z_tb k)) → z_Pc dC dI cI cZ cJ q A L X as S args s →
      W p l e (headSpec (z_ws k) (z_rm k n)).room s m args below meth c s.heap [] 0 0 (vx_MQ below (fun _ _ _ _ => False) (z_Xc dC dI cI cZ cJ q A X E S2) args s n (6 * n) A) (entryFrame m args (z_ml k)) := by
    intro p e s m args below meth c s₁ B hml hno htab hv
    obtain ⟨rfl, hFx, hP, hX⟩ := hv
    have hCx : z_Cx l k p (z_rm k n) s m (as.map (z_cv q)).toArray c := ⟨B.exec, B.bytes, hml, findClass_of_methodNamed B.named, fun w hw => atoms_spec (ws := z_ws k) B.pre w (List.mem_cons_of_mem _ hw), Nat.le_refl _, Nat.le_refl _, htr⟩
    rw [lg_entry_eq]
    have hE : z_End dC dI cI cZ cJ q A X p l e (z_rm k n) s m (as.map (z_cv q)).toArray below meth c (vx_MQ below (fun _ _ _ _ => False) (z_Xc dC dI cI cZ cJ q A X E S2) (as.map (z_cv q)).toArray s n (6 * n) A) k n (6 * n) (.inr E, S2, n) := by
      intro hbe
      refine ⟨fun pcb ls rest H locs c9 s9 q9 ce hP2 hX2 hS2 hce hcv hcl hc9 hs9 => ?_, fun i ix kw v ls H locs c9 s9 hok hP2 hX2 hS2 hls hc9 hs9 => ?_⟩
      · exact vx_out (fun x hx => (hno hbe x hx).elim) B.notSynchronized hce hcv hcl (fun t ht hW => ⟨⟨rfl, by rw [ht]; exact hP2, hX2⟩, hS2.F ht⟩) hS2.2.2 hc9 hs9
      · exact z_thr hE3 hCx hFx hok B.notSynchronized (hno hbe) hP2 hX2 hS2 hls hc9 hs9 (Nat.le_refl _) (Nat.le_refl _)
    have h9 := h p e (z_rm k n) s m (as.map (z_cv q)).toArray below meth c _ n (6 * n) 0 0 hCx hFx htab (by show 0 + n ≤ n; omega) (Nat.le_refl _) (by show 0 + 6 * n ≤ 6 * n; omega) (Nat.le_refl _) hE s.heap [] _ ⟨hP, hX, va_S.rf, z_entry (q := q) has hlen, z_ent_len hlen⟩
    dsimp only at h9
    rw [hpc] at h9
    exact h9
  by_cases hb : (z_tb k).isEmpty = true
  · exact z_xofW (cc := z_b k) (maxL := z_ml k) (ret := z_rt k) m5 (z_ws_code hb) (fun p e s m args below meth c s₁ B hml hno hv => key p e s m args below meth c s₁ B hml (fun _ => hno) (fun h => absurd hb h) hv)
  · exact z_xofWH (cc := z_b k) (maxL := z_ml k) (ret := z_rt k) (hh := z_tb k) m5 (z_ws_with hb) (fun p e s m args below meth c s₁ B hml hv => key p e s m args below meth c s₁ B hml (fun h => absurd h hb) (fun _ => vx_table (x := z_y k) B (atoms_spec (ws := z_ws k) B.pre _ (by rw [z_ws_with hb]; exact List.mem_cons_self))) hv)
theorem z_hd_split : ∀ (hs : List (Nat × Nat × Nat × Nat × Nat × Nat)) {E : Nat} {v : Int32}, z_hd hs E = some v → ∃ pre h suf, hs = pre ++ h :: suf ∧ h.1 = E ∧ v = Int32.ofNat h.2.2.2.2.2
  | [], E, v, h => by cases h
  | h :: r, E, v, hh => by
    unfold z_hd at hh
    split at hh
    · next he => cases hh; exact ⟨[], h, r, rfl, he, rfl⟩
    · obtain ⟨pre, h9, suf, e1, e2, e3⟩ := z_hd_split r hh
      exact ⟨h :: pre, h9, suf, by rw [e1]; rfl, e2, e3⟩
set_option maxHeartbeats 1000000 in
/-- a throw that is caught by a handler of the method's own -/
theorem z_caught {pcb E : Nat} {v : Int32} {H : Heap} {locs : List Loc} {ls : Array Slot} {lw : List (Nat × Value)} {rest : List Value} {q9 : Addr} {ce : Cell} (hC : z_Cx l mi p R s m args c) (hF : z_Fx dC dI cI cZ cJ q A L X s s.heap) (htab : c.exceptionTable.toList = tableOf (z_tb mi)) (hck : z_hck mi pcb = true) (hhd : z_hd (z_th mi) E = some v) (hl : lv_has ls (z_ml mi) lw) (hce : H[q9]? = some ce) (hcv : ce.vm = .none) (hcl : s.vm.findClass (z_exn E) = some ce.cls)
    (kk : ∀ (pc9 : Nat) (ls9 : Array Slot), z_isret mi pc9 (some (.inl v)) → W p l e R s m args below meth c H locs cells slots Q (F0 m pc9 ls9 [.int v])) : vx_W p l e R s m args below meth c H locs cells slots Q (F0 m pcb ls rest) q9 := by
  obtain ⟨hx, hb, hml, hown, hts, hfr, hlo, htr⟩ := hC
  simp only [z_hck, Bool.and_eq_true, decide_eq_true_eq, List.all_eq_true, Bool.or_eq_true] at hck
  obtain ⟨⟨⟨⟨⟨hmap, hcov⟩, hrt⟩, hcls⟩, hall⟩, hpw⟩ := hck
  obtain ⟨pre, h, suf, e1, e2, e3⟩ := z_hd_split _ hhd
  rw [e1] at hmap hpw
  rw [List.map_append, List.map_cons] at hmap
  obtain ⟨tp, ts, f1, f2, f3⟩ := List.map_eq_append_iff.mp hmap
  obtain ⟨t, ts', g1, g2, g3⟩ := List.map_eq_cons_iff.mp f3
  rw [g1] at f1
  have hin : h ∈ z_th mi := by rw [e1]; simp
  have htin : t ∈ z_tb mi := by rw [f1]; simp
  obtain ⟨⟨⟨⟨hE3, hw⟩, hav⟩, hkv⟩, hdec⟩ := hall h hin
  obtain ⟨⟨c1, c2⟩, c3⟩ := hcov t htin
  have ht2 : t.2.2.1 = h.2.1 ∧ t.2.2.2 = h.2.2.1 := by simpa using g2
  rw [hcls] at hown
  have hsplit : c.exceptionTable.toList = tableOf tp ++ (⟨t.1, t.2.1, t.2.2.1, t.2.2.2⟩ : ExceptionTableEntry) :: tableOf ts' := by rw [htab, f1]; simp [tableOf]
  have hpass : ∀ z ∈ tableOf tp, covers z pcb = false ∨ (z.catchType ≠ 0 ∧ ∃ nm : String, (Cond.classLink RL z.catchType nm).before args s = true ∧ va_Nc (z_exn E) nm s) := by
    intro z hz
    obtain ⟨t0, ht0, rfl⟩ := List.mem_map.mp hz
    have hm0 : (t0.2.2.1, t0.2.2.2) ∈ pre.map (fun h => (h.2.1, h.2.2.1)) := by rw [← f2]; exact List.mem_map.mpr ⟨t0, ht0, rfl⟩
    obtain ⟨h0, hh0, hh1⟩ := List.mem_map.mp hm0
    have hh2 : h0.2.2.1 = t0.2.2.2 := by simpa using (Prod.ext_iff.mp hh1).2
    have hin0 : h0 ∈ z_th mi := by rw [e1]; exact List.mem_append_left _ hh0
    obtain ⟨⟨⟨⟨hE0, hw0⟩, -⟩, -⟩, -⟩ := hall h0 hin0
    have hlt : h0.1 < h.1 := (List.pairwise_append.mp hpw).2.2 h0 hh0 h List.mem_cons_self
    refine Or.inr ⟨(hcov t0 (by rw [f1]; exact List.mem_append_left _ ht0)).2, z_exn h0.1, ?_, ?_⟩
    · have := hts _ (z_w_in hw0)
      rwa [hh2] at this
    · rw [← e2]; exact hF.2.2.2.2.2.2.1 _ _ hlt hE3 ⟨mi, List.ne_nil_of_mem hin⟩
  have hcx : covers (⟨t.1, t.2.1, t.2.2.1, t.2.2.2⟩ : ExceptionTableEntry) pcb = true := by simp [covers, c1, c2]
  have hlk : (Cond.classLink RL t.2.2.2 (z_exn E)).before args s = true := by
    have := hts _ (z_w_in hw)
    rw [e2] at this
    rwa [ht2.2]
  refine vx_catch hown (tableOf tp) _ (tableOf ts') hsplit hpass hcx c3 hlk (va_Nw.use rfl (hF.2.2.2.2.2.2.2.2 E (by rw [← e2]; exact hE3))) hce hcv hcl ?_
  show W p l e R s m args below meth c H locs cells slots Q (F0 m t.2.2.1 ls [.ref q9])
  rw [ht2.1]
  have hkv2 : Int32.ofInt (Int.ofNat h.2.2.2.2.2) = v := by rw [e3]; exact hkv
  rcases hdec with ⟨⟨⟨d0, d1⟩, d2⟩, d3⟩ | ⟨⟨d1, d2⟩, d3⟩
  · refine lv_astore_n hx hb d1 (Nat.mod_eq_of_lt d0) hl hav rfl (fun ls9 _ => ?_)
    refine lv_iconst hx hb d2 hkv2 ?_
    exact kk _ ls9 ⟨d3, Or.inl hrt⟩
  · refine lv_astore hx hb d1 hl hav rfl (fun ls9 _ => ?_)
    refine lv_iconst hx hb d2 hkv2 ?_
    exact kk _ ls9 ⟨d3, Or.inl hrt⟩
end ZSO
